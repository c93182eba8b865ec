def sX5_account (g : Nat → Int32) (u : Nat → Int32) (rv : Nat → Nat → Int32) (w : Int32) : Int32 :=
  (if w = 0 then (sX5_countRooms g u rv) else (if w = 1 then (g 1) else (if w = 2 then (g 2) else (if w = 3 then (sX5_minutesLeft g u) else (if w = 4 then (g 3) else (if w = 5 then (g 4) else (if w = 6 then (g 5) else (if w = 7 then (g 6) else (if w = 8 then (g 7) else (if w = 9 then (g 8) else (g 9)))))))))))
set_option maxRecDepth 100000 in
set_option maxHeartbeats 4000000 in
theorem c_X5_account (l : Launch) (G : va_G) (kk : Nat → ClassId) (a : Nat → Nat) (g : Nat → Int32) (u : Nat → Int32) (rv : Nat → Nat → Int32) (w : Int32)  : CC l yX5_account cX5_account 2 (some .int) (rmO 3 65) [.ref (a 0), .int w] G kk (stW kk a g u rv) (QI G kk (stW kk a g u rv) (sX5_account g u rv w)) := by
  refine cc_start (by decide +kernel) (Nat.le_of_ble_eq_true rfl) ?_
  intro p e s m below meth c A ls hx hb hr hml hown hts hlocks hA hE hK hP hD hS hl
  have hown : s.vm.findClass RX5 = some m.cls := hown
  have hl : lv_has ls 2 [(0, .ref (a 0)), (1, .int w)] := hl
  have eS : sX5_account g u rv w = sX5_account g u rv w := rfl
  refine lv_iload_n hx hb dX5_account_0 rfl (lv_at hl 1 rfl) ?_
  refine (Decidable.em (w = 0)).elim (fun c_1_0 => ?_) (fun c_1_0 => ?_)
  · have eS := eS.trans (if_pos c_1_0)
    refine lv_tableIn (tgt := 56) hx hb dX5_account_1 (by rw [c_1_0]; decide) (by rw [c_1_0]; decide) (by rw [c_1_0]; rfl) (by decide) ?_
    refine lv_aload_n hx hb dX5_account_56 rfl (lv_at hl 0 rfl) ?_
    refine k_goI (k_runV (rest := []) (As := []) hx hb hml hown hts hK hP hD hS hA hE hl.1 (c_X5_countRooms l G kk a g u rv ) vl_X5_62 rfl rfl rfl ⟨Nat.le_of_ble_eq_true rfl, Nat.le_of_ble_eq_true rfl, rfl, rfl⟩ [0, 1, 2, 3, 4, 5, 6, 7, 8] rfl st_mapC ⟨Nat.zero_le _, Nat.zero_le _⟩ rfl (Nat.le_of_ble_eq_true rfl) dX5_account_57) hP hD hS hA [0, 1, 2, 3, 4, 5, 6, 7, 8] st_mapC st_ads (fun H locs hP hD hS => ?_)
    replace hP : va_P G vwCl (stW kk a g u rv) H := vP_eq (st_full) hP
    replace hD : va_D A (stW kk a g u rv) := vD_eq (st_full) hD
    exact fin_i hx hb hr hlocks hK hP hD hS eS dX5_account_60
  have eS := eS.trans (if_neg c_1_0)
  refine (Decidable.em (w = 1)).elim (fun c_1_1 => ?_) (fun c_1_1 => ?_)
  · have eS := eS.trans (if_pos c_1_1)
    refine lv_tableIn (tgt := 61) hx hb dX5_account_1 (by rw [c_1_1]; decide) (by rw [c_1_1]; decide) (by rw [c_1_1]; rfl) (by decide) ?_
    refine lv_aload_n hx hb dX5_account_61 rfl (lv_at hl 0 rfl) ?_
    refine r_get (v := .int (g 1)) hx hb hts hown hK hP fl_X5_34 0 rfl rfl dX5_account_62 ?_
    exact fin_i hx hb hr hlocks hK hP hD hS eS dX5_account_65
  have eS := eS.trans (if_neg c_1_1)
  refine (Decidable.em (w = 2)).elim (fun c_1_2 => ?_) (fun c_1_2 => ?_)
  · have eS := eS.trans (if_pos c_1_2)
    refine lv_tableIn (tgt := 66) hx hb dX5_account_1 (by rw [c_1_2]; decide) (by rw [c_1_2]; decide) (by rw [c_1_2]; rfl) (by decide) ?_
    refine lv_aload_n hx hb dX5_account_66 rfl (lv_at hl 0 rfl) ?_
    refine r_get (v := .int (g 2)) hx hb hts hown hK hP fl_X5_38 0 rfl rfl dX5_account_67 ?_
    exact fin_i hx hb hr hlocks hK hP hD hS eS dX5_account_70
  have eS := eS.trans (if_neg c_1_2)
  refine (Decidable.em (w = 3)).elim (fun c_1_3 => ?_) (fun c_1_3 => ?_)
  · have eS := eS.trans (if_pos c_1_3)
    refine lv_tableIn (tgt := 71) hx hb dX5_account_1 (by rw [c_1_3]; decide) (by rw [c_1_3]; decide) (by rw [c_1_3]; rfl) (by decide) ?_
    refine lv_aload_n hx hb dX5_account_71 rfl (lv_at hl 0 rfl) ?_
    refine k_goI (k_runV (rest := []) (As := []) hx hb hml hown hts hK hP hD hS hA hE hl.1 (c_X5_minutesLeft l G kk (a 0) (a 1) (a 2) g u ) vl_X5_66 rfl rfl rfl ⟨Nat.le_of_ble_eq_true rfl, Nat.le_of_ble_eq_true rfl, rfl, rfl⟩ [0, 1] rfl rfl ⟨Nat.zero_le _, Nat.zero_le _⟩ rfl (Nat.le_of_ble_eq_true rfl) dX5_account_72) hP hD hS hA [0, 1] rfl ads2 (fun H locs hP hD hS => ?_)
    replace hP : va_P G vwCl (stW kk a g u rv) H := hP
    replace hD : va_D A (stW kk a g u rv) := hD
    exact fin_i hx hb hr hlocks hK hP hD hS eS dX5_account_75
  have eS := eS.trans (if_neg c_1_3)
  refine (Decidable.em (w = 4)).elim (fun c_1_4 => ?_) (fun c_1_4 => ?_)
  · have eS := eS.trans (if_pos c_1_4)
    refine lv_tableIn (tgt := 76) hx hb dX5_account_1 (by rw [c_1_4]; decide) (by rw [c_1_4]; decide) (by rw [c_1_4]; rfl) (by decide) ?_
    refine lv_aload_n hx hb dX5_account_76 rfl (lv_at hl 0 rfl) ?_
    refine r_get (v := .int (g 3)) hx hb hts hown hK hP fl_X5_41 0 rfl rfl dX5_account_77 ?_
    exact fin_i hx hb hr hlocks hK hP hD hS eS dX5_account_80
  have eS := eS.trans (if_neg c_1_4)
  refine (Decidable.em (w = 5)).elim (fun c_1_5 => ?_) (fun c_1_5 => ?_)
  · have eS := eS.trans (if_pos c_1_5)
    refine lv_tableIn (tgt := 81) hx hb dX5_account_1 (by rw [c_1_5]; decide) (by rw [c_1_5]; decide) (by rw [c_1_5]; rfl) (by decide) ?_
    refine lv_aload_n hx hb dX5_account_81 rfl (lv_at hl 0 rfl) ?_
    refine r_get (v := .int (g 4)) hx hb hts hown hK hP fl_X5_44 0 rfl rfl dX5_account_82 ?_
    exact fin_i hx hb hr hlocks hK hP hD hS eS dX5_account_85
  have eS := eS.trans (if_neg c_1_5)
  refine (Decidable.em (w = 6)).elim (fun c_1_6 => ?_) (fun c_1_6 => ?_)
  · have eS := eS.trans (if_pos c_1_6)
    refine lv_tableIn (tgt := 86) hx hb dX5_account_1 (by rw [c_1_6]; decide) (by rw [c_1_6]; decide) (by rw [c_1_6]; rfl) (by decide) ?_
    refine lv_aload_n hx hb dX5_account_86 rfl (lv_at hl 0 rfl) ?_
    refine r_get (v := .int (g 5)) hx hb hts hown hK hP fl_X5_47 0 rfl rfl dX5_account_87 ?_
    exact fin_i hx hb hr hlocks hK hP hD hS eS dX5_account_90
  have eS := eS.trans (if_neg c_1_6)
  refine (Decidable.em (w = 7)).elim (fun c_1_7 => ?_) (fun c_1_7 => ?_)
  · have eS := eS.trans (if_pos c_1_7)
    refine lv_tableIn (tgt := 91) hx hb dX5_account_1 (by rw [c_1_7]; decide) (by rw [c_1_7]; decide) (by rw [c_1_7]; rfl) (by decide) ?_
    refine lv_aload_n hx hb dX5_account_91 rfl (lv_at hl 0 rfl) ?_
    refine r_get (v := .int (g 6)) hx hb hts hown hK hP fl_X5_50 0 rfl rfl dX5_account_92 ?_
    exact fin_i hx hb hr hlocks hK hP hD hS eS dX5_account_95
  have eS := eS.trans (if_neg c_1_7)
  refine (Decidable.em (w = 8)).elim (fun c_1_8 => ?_) (fun c_1_8 => ?_)
  · have eS := eS.trans (if_pos c_1_8)
    refine lv_tableIn (tgt := 96) hx hb dX5_account_1 (by rw [c_1_8]; decide) (by rw [c_1_8]; decide) (by rw [c_1_8]; rfl) (by decide) ?_
    refine lv_aload_n hx hb dX5_account_96 rfl (lv_at hl 0 rfl) ?_
    refine r_get (v := .int (g 7)) hx hb hts hown hK hP fl_X5_53 0 rfl rfl dX5_account_97 ?_
    exact fin_i hx hb hr hlocks hK hP hD hS eS dX5_account_100
  have eS := eS.trans (if_neg c_1_8)
  refine (Decidable.em (w = 9)).elim (fun c_1_9 => ?_) (fun c_1_9 => ?_)
  · have eS := eS.trans (if_pos c_1_9)
    refine lv_tableIn (tgt := 101) hx hb dX5_account_1 (by rw [c_1_9]; decide) (by rw [c_1_9]; decide) (by rw [c_1_9]; rfl) (by decide) ?_
    refine lv_aload_n hx hb dX5_account_101 rfl (lv_at hl 0 rfl) ?_
    refine r_get (v := .int (g 8)) hx hb hts hown hK hP fl_X5_56 0 rfl rfl dX5_account_102 ?_
    exact fin_i hx hb hr hlocks hK hP hD hS eS dX5_account_105
  have eS := eS.trans (if_neg c_1_9)
  refine lv_tableOut (tgt := 106) hx hb dX5_account_1 (by have t0 := lv_neT (a := 0) c_1_0 (by decide); have t1 := lv_neT (a := 1) c_1_1 (by decide); have t2 := lv_neT (a := 2) c_1_2 (by decide); have t3 := lv_neT (a := 3) c_1_3 (by decide); have t4 := lv_neT (a := 4) c_1_4 (by decide); have t5 := lv_neT (a := 5) c_1_5 (by decide); have t6 := lv_neT (a := 6) c_1_6 (by decide); have t7 := lv_neT (a := 7) c_1_7 (by decide); have t8 := lv_neT (a := 8) c_1_8 (by decide); have t9 := lv_neT (a := 9) c_1_9 (by decide); omega) (by decide) ?_
  refine lv_aload_n hx hb dX5_account_106 rfl (lv_at hl 0 rfl) ?_
  refine r_get (v := .int (g 9)) hx hb hts hown hK hP fl_X5_59 0 rfl rfl dX5_account_107 ?_
  exact fin_i hx hb hr hlocks hK hP hD hS eS dX5_account_110
def sX5_takeRoom_z_3 (g : Nat → Int32) (u : Nat → Int32) (rv : Nat → Nat → Int32) (x : Int32) (y : Int32) (z : Int32) (k_2 : Nat) (z_3 : (Nat → Int32)) : Int32 × (Nat → Nat → Int32) :=
  ((z_3 0), (updR rv k_2 z_3))
def sX5_takeRoom (g : Nat → Int32) (u : Nat → Int32) (rv : Nat → Nat → Int32) (x : Int32) (y : Int32) (z : Int32) : Int32 × (Nat → Nat → Int32) :=
  (oe (sX5_firstFree g u rv) ((-1), rv) (fun k_2 => (if (sX5_canBeRoom x y z) = 0 then ((-1), rv) else (sX5_takeRoom_z_3 g u rv x y z k_2 (sX2_fill (rv k_2) x y z)))))
set_option maxRecDepth 100000 in
set_option maxHeartbeats 4000000 in
theorem c_X5_takeRoom (l : Launch) (G : va_G) (kk : Nat → ClassId) (a : Nat → Nat) (g : Nat → Int32) (u : Nat → Int32) (rv : Nat → Nat → Int32) (x : Int32) (y : Int32) (z : Int32)  : CC l yX5_takeRoom cX5_takeRoom 5 (some .int) (rmO 2 44) [.ref (a 0), .int x, .int y, .int z] G kk (stW kk a g u rv) (QI G kk (stW kk a g u ((sX5_takeRoom g u rv x y z).2)) ((sX5_takeRoom g u rv x y z).1)) := by
  refine cc_start (by decide +kernel) (Nat.le_of_ble_eq_true rfl) ?_
  intro p e s m below meth c A ls hx hb hr hml hown hts hlocks hA hE hK hP hD hS hl
  have hown : s.vm.findClass RX5 = some m.cls := hown
  have hl : lv_has ls 5 [(0, .ref (a 0)), (1, .int x), (2, .int y), (3, .int z)] := hl
  have eS : sX5_takeRoom g u rv x y z = sX5_takeRoom g u rv x y z := rfl
  refine lv_aload_n hx hb dX5_takeRoom_0 rfl (lv_at hl 0 rfl) ?_
  refine k_goQ (k_runV (rest := []) (As := []) hx hb hml hown hts hK hP hD hS hA hE hl.1 (c_X5_firstFree l G kk a g u rv ) vl_X5_73 rfl rfl rfl ⟨Nat.le_of_ble_eq_true rfl, Nat.le_of_ble_eq_true rfl, rfl, rfl⟩ [0, 1, 2, 3, 4, 5, 6, 7, 8] rfl st_mapC ⟨Nat.zero_le _, Nat.zero_le _⟩ rfl (Nat.le_of_ble_eq_true rfl) dX5_takeRoom_1) hP hD hS hA [0, 1, 2, 3, 4, 5, 6, 7, 8] st_mapC st_ads (fun H locs hP hD hS => ?_)
  replace hP : va_P G vwCl (stW kk a g u rv) H := vP_eq (st_full) hP
  replace hD : va_D A (stW kk a g u rv) := vD_eq (st_full) hD
  rcases opt_or ((sX5_firstFree g u rv)) with hq_1 | ⟨k_2, hq_1⟩
  · refine top_eqV (y := .null) (by rw [hq_1]; rfl) ?_
    have eS := eS.trans (oe_n hq_1)
    refine lv_astoreN (lv' := [(4, .null), (0, .ref (a 0)), (1, .int x), (2, .int y), (3, .int z)]) hx hb dX5_takeRoom_4 hl (by decide) rfl (fun ls hl => ?_)
    refine lv_aloadN hx hb dX5_takeRoom_6 (lv_at hl 0 rfl) ?_
    refine lv_ifnullN (tgt := 20) hx hb dX5_takeRoom_8 (by decide) ?_
    refine lv_iconst (v := (-1)) hx hb dX5_takeRoom_20 (by decide) ?_
    exact fin_i hx hb hr hlocks hK (vP_eq (congrArg (fun z : Int32 × (Nat → Nat → Int32) => (stW kk a g u z.2 : va_W)) eS.symm) hP) (vD_eq (congrArg (fun z : Int32 × (Nat → Nat → Int32) => (stW kk a g u z.2 : va_W)) eS.symm) hD) hS (congrArg (fun z : Int32 × (Nat → Nat → Int32) => z.1) eS) dX5_takeRoom_21
  · refine top_eqV (y := .ref (a (3 + k_2))) (by rw [hq_1]; rfl) ?_
    have hk_2 := firstFree_lt hq_1
    have eS := eS.trans (oe_s hq_1)
    refine lv_astore (lv' := [(4, .ref (a (3 + k_2))), (0, .ref (a 0)), (1, .int x), (2, .int y), (3, .int z)]) hx hb dX5_takeRoom_4 hl (by decide) rfl (fun ls hl => ?_)
    refine lv_aload hx hb dX5_takeRoom_6 (lv_at hl 0 rfl) ?_
    refine lv_ifnull hx hb dX5_takeRoom_8 ?_
    refine lv_iload_n hx hb dX5_takeRoom_11 rfl (lv_at hl 2 rfl) ?_
    refine lv_iload_n hx hb dX5_takeRoom_12 rfl (lv_at hl 3 rfl) ?_
    refine lv_iload_n hx hb dX5_takeRoom_13 rfl (lv_at hl 4 rfl) ?_
    refine k_goI (k_runS (rest := []) (As := [.int x, .int y, .int z]) hx hb hml hown hts hK hP hD hS hA hE hl.1 (c_X5_canBeRoom l G kk x y z ) sl_X5_87 ⟨Nat.le_of_ble_eq_true rfl, Nat.le_of_ble_eq_true rfl, rfl, rfl⟩ [] rfl rfl ⟨Nat.zero_le _, Nat.zero_le _⟩ rfl (Nat.le_of_ble_eq_true rfl) dX5_takeRoom_14) hP hD hS hA [] rfl ads0 (fun H locs hP hD hS => ?_)
    replace hP : va_P G vwCl (stW kk a g u rv) H := hP
    replace hD : va_D A (stW kk a g u rv) := hD
    refine lv_if_ne (tgt := 22) hx hb dX5_takeRoom_17 (by decide) (fun c_17 => ?_) (fun c_17 => ?_)
    · have eS := eS.trans (if_neg c_17)
      refine lv_aload hx hb dX5_takeRoom_22 (lv_at hl 0 rfl) ?_
      refine lv_iload_n hx hb dX5_takeRoom_24 rfl (lv_at hl 2 rfl) ?_
      refine lv_iload_n hx hb dX5_takeRoom_25 rfl (lv_at hl 3 rfl) ?_
      refine lv_iload_n hx hb dX5_takeRoom_26 rfl (lv_at hl 4 rfl) ?_
      refine k_goV (k_runV (rest := []) (As := [.int x, .int y, .int z]) hx hb hml hown hts hK hP hD hS hA hE hl.1 (c_X2_fill l G kk (a (3 + k_2)) (rv k_2) x y z ) vl_X5_91 rfl rfl rfl ⟨Nat.le_of_ble_eq_true rfl, Nat.le_of_ble_eq_true rfl, rfl, rfl⟩ [3 + k_2] (nd1 _) (map1 (st_at hk_2)) ⟨Nat.zero_le _, Nat.zero_le _⟩ rfl (Nat.le_of_ble_eq_true rfl) dX5_takeRoom_27) hP hD hS hA [3 + k_2] (map1 (st_at hk_2)) ads1 (fun H locs hP hD hS => ?_)
      replace hP : va_P G vwCl (stW kk a g u (updR rv k_2 (sX2_fill (rv k_2) x y z))) H := vP_eq (st_put (g := g) (u := u) hk_2 (sX2_fill (rv k_2) x y z) rfl) hP
      replace hD : va_D A (stW kk a g u (updR rv k_2 (sX2_fill (rv k_2) x y z))) := vD_eq (st_put (g := g) (u := u) hk_2 (sX2_fill (rv k_2) x y z) rfl) hD
      have eS : sX5_takeRoom g u rv x y z = sX5_takeRoom_z_3 g u rv x y z k_2 (sX2_fill (rv k_2) x y z) := eS
      generalize sX2_fill (rv k_2) x y z = z_3 at hP hD eS ⊢
      refine lv_aload hx hb dX5_takeRoom_30 (lv_at hl 0 rfl) ?_
      refine r_getN (v := .int (z_3 0)) hE hx hb hts hown hK hP fn_X5_77 (3 + k_2) (st_atU hk_2) rfl dX5_takeRoom_32 ?_
      exact fin_i hx hb hr hlocks hK (vP_eq (congrArg (fun z : Int32 × (Nat → Nat → Int32) => (stW kk a g u z.2 : va_W)) eS.symm) hP) (vD_eq (congrArg (fun z : Int32 × (Nat → Nat → Int32) => (stW kk a g u z.2 : va_W)) eS.symm) hD) hS (congrArg (fun z : Int32 × (Nat → Nat → Int32) => z.1) eS) dX5_takeRoom_35
    · have eS := eS.trans (if_pos c_17)
      refine lv_iconst (v := (-1)) hx hb dX5_takeRoom_20 (by decide) ?_
      exact fin_i hx hb hr hlocks hK (vP_eq (congrArg (fun z : Int32 × (Nat → Nat → Int32) => (stW kk a g u z.2 : va_W)) eS.symm) hP) (vD_eq (congrArg (fun z : Int32 × (Nat → Nat → Int32) => (stW kk a g u z.2 : va_W)) eS.symm) hD) hS (congrArg (fun z : Int32 × (Nat → Nat → Int32) => z.1) eS) dX5_takeRoom_21
def sX5_moveDoor (g : Nat → Int32) (u : Nat → Int32) (rv : Nat → Nat → Int32) (i : Int32) (o : Int32) : Int32 × (Nat → Nat → Int32) :=
  (oe (sX5_roomAt g u rv i) (0, rv) (fun k_2 => (1, (updR rv k_2 (upd (rv k_2) 5 o)))))
set_option maxRecDepth 100000 in
set_option maxHeartbeats 4000000 in
theorem c_X5_moveDoor (l : Launch) (G : va_G) (kk : Nat → ClassId) (a : Nat → Nat) (g : Nat → Int32) (u : Nat → Int32) (rv : Nat → Nat → Int32) (i : Int32) (o : Int32) (ho : zb o) : CC l yX5_moveDoor cX5_moveDoor 4 (some .boolean) (rmO 2 42) [.ref (a 0), .int i, .int o] G kk (stW kk a g u rv) (QI G kk (stW kk a g u ((sX5_moveDoor g u rv i o).2)) ((sX5_moveDoor g u rv i o).1)) := by
  refine cc_start (by decide +kernel) (Nat.le_of_ble_eq_true rfl) ?_
  intro p e s m below meth c A ls hx hb hr hml hown hts hlocks hA hE hK hP hD hS hl
  have hown : s.vm.findClass RX5 = some m.cls := hown
  have hl : lv_has ls 4 [(0, .ref (a 0)), (1, .int i), (2, .int o)] := hl
  have eS : sX5_moveDoor g u rv i o = sX5_moveDoor g u rv i o := rfl
  refine lv_aload_n hx hb dX5_moveDoor_0 rfl (lv_at hl 0 rfl) ?_
  refine lv_iload_n hx hb dX5_moveDoor_1 rfl (lv_at hl 1 rfl) ?_
  refine k_goQ (k_runV (rest := []) (As := [.int i]) hx hb hml hown hts hK hP hD hS hA hE hl.1 (c_X5_roomAt l G kk a g u rv i ) vl_X5_95 rfl rfl rfl ⟨Nat.le_of_ble_eq_true rfl, Nat.le_of_ble_eq_true rfl, rfl, rfl⟩ [0, 1, 2, 3, 4, 5, 6, 7, 8] rfl st_mapC ⟨Nat.zero_le _, Nat.zero_le _⟩ rfl (Nat.le_of_ble_eq_true rfl) dX5_moveDoor_2) hP hD hS hA [0, 1, 2, 3, 4, 5, 6, 7, 8] st_mapC st_ads (fun H locs hP hD hS => ?_)
  replace hP : va_P G vwCl (stW kk a g u rv) H := vP_eq (st_full) hP
  replace hD : va_D A (stW kk a g u rv) := vD_eq (st_full) hD
  rcases opt_or ((sX5_roomAt g u rv i)) with hq_1 | ⟨k_2, hq_1⟩
  · refine top_eqV (y := .null) (by rw [hq_1]; rfl) ?_
    have eS := eS.trans (oe_n hq_1)
    refine lv_astore_nN (lv' := [(3, .null), (0, .ref (a 0)), (1, .int i), (2, .int o)]) hx hb dX5_moveDoor_5 rfl hl (by decide) rfl (fun ls hl => ?_)
    refine lv_aload_nN hx hb dX5_moveDoor_6 rfl (lv_at hl 0 rfl) ?_
    refine lv_ifnonnullN hx hb dX5_moveDoor_7 ?_
    refine lv_iconst (v := 0) hx hb dX5_moveDoor_10 (by decide) ?_
    exact fin_z hx hb hr hlocks hK (vP_eq (congrArg (fun z : Int32 × (Nat → Nat → Int32) => (stW kk a g u z.2 : va_W)) eS.symm) hP) (vD_eq (congrArg (fun z : Int32 × (Nat → Nat → Int32) => (stW kk a g u z.2 : va_W)) eS.symm) hD) hS (congrArg (fun z : Int32 × (Nat → Nat → Int32) => z.1) eS) rfl dX5_moveDoor_11
  · refine top_eqV (y := .ref (a (3 + k_2))) (by rw [hq_1]; rfl) ?_
    have hk_2 := roomAt_lt hq_1
    have eS := eS.trans (oe_s hq_1)
    refine lv_astore_n (lv' := [(3, .ref (a (3 + k_2))), (0, .ref (a 0)), (1, .int i), (2, .int o)]) hx hb dX5_moveDoor_5 rfl hl (by decide) rfl (fun ls hl => ?_)
    refine lv_aload_n hx hb dX5_moveDoor_6 rfl (lv_at hl 0 rfl) ?_
    refine lv_ifnonnull (tgt := 12) hx hb dX5_moveDoor_7 (by decide) ?_
    refine lv_aload_n hx hb dX5_moveDoor_12 rfl (lv_at hl 0 rfl) ?_
    refine lv_iload_n hx hb dX5_moveDoor_13 rfl (lv_at hl 3 rfl) ?_
    refine r_putN hE hx hb hts hown hK hP hD hS fn_X5_80 fw_2_5 (3 + k_2) (st_at hk_2) (zb_n ho) (zb_f ho) (Nat.le_of_ble_eq_true rfl) dX5_moveDoor_14 (fun H locs hP hD hS => ?_)
    replace hP : va_P G vwCl (stW kk a g u (updR rv k_2 (upd (rv k_2) 5 o))) H := vP_eq (st_put hk_2 (upd (rv k_2) 5 o) rfl) hP
    replace hD : va_D A (stW kk a g u (updR rv k_2 (upd (rv k_2) 5 o))) := vD_eq (st_put hk_2 (upd (rv k_2) 5 o) rfl) hD
    refine lv_iconst (v := 1) hx hb dX5_moveDoor_17 (by decide) ?_
    exact fin_z hx hb hr hlocks hK (vP_eq (congrArg (fun z : Int32 × (Nat → Nat → Int32) => (stW kk a g u z.2 : va_W)) eS.symm) hP) (vD_eq (congrArg (fun z : Int32 × (Nat → Nat → Int32) => (stW kk a g u z.2 : va_W)) eS.symm) hD) hS (congrArg (fun z : Int32 × (Nat → Nat → Int32) => z.1) eS) rfl dX5_moveDoor_18
def sX5_takeGoods (g : Nat → Int32) (u : Nat → Int32) (rv : Nat → Nat → Int32) (i : Int32) (v : Int32) : Int32 × (Nat → Nat → Int32) :=
  (oe (sX5_roomAt g u rv i) (0, rv) (fun k_2 => (if (sX5_canBeTemperature v) = 0 then (0, rv) else (1, (updR rv k_2 (upd (rv k_2) 4 v))))))
set_option maxRecDepth 100000 in
set_option maxHeartbeats 4000000 in
theorem c_X5_takeGoods (l : Launch) (G : va_G) (kk : Nat → ClassId) (a : Nat → Nat) (g : Nat → Int32) (u : Nat → Int32) (rv : Nat → Nat → Int32) (i : Int32) (v : Int32)  : CC l yX5_takeGoods cX5_takeGoods 4 (some .boolean) (rmO 2 42) [.ref (a 0), .int i, .int v] G kk (stW kk a g u rv) (QI G kk (stW kk a g u ((sX5_takeGoods g u rv i v).2)) ((sX5_takeGoods g u rv i v).1)) := by
  refine cc_start (by decide +kernel) (Nat.le_of_ble_eq_true rfl) ?_
  intro p e s m below meth c A ls hx hb hr hml hown hts hlocks hA hE hK hP hD hS hl
  have hown : s.vm.findClass RX5 = some m.cls := hown
  have hl : lv_has ls 4 [(0, .ref (a 0)), (1, .int i), (2, .int v)] := hl
  have eS : sX5_takeGoods g u rv i v = sX5_takeGoods g u rv i v := rfl
  refine lv_aload_n hx hb dX5_takeGoods_0 rfl (lv_at hl 0 rfl) ?_
  refine lv_iload_n hx hb dX5_takeGoods_1 rfl (lv_at hl 1 rfl) ?_
  refine k_goQ (k_runV (rest := []) (As := [.int i]) hx hb hml hown hts hK hP hD hS hA hE hl.1 (c_X5_roomAt l G kk a g u rv i ) vl_X5_95 rfl rfl rfl ⟨Nat.le_of_ble_eq_true rfl, Nat.le_of_ble_eq_true rfl, rfl, rfl⟩ [0, 1, 2, 3, 4, 5, 6, 7, 8] rfl st_mapC ⟨Nat.zero_le _, Nat.zero_le _⟩ rfl (Nat.le_of_ble_eq_true rfl) dX5_takeGoods_2) hP hD hS hA [0, 1, 2, 3, 4, 5, 6, 7, 8] st_mapC st_ads (fun H locs hP hD hS => ?_)
  replace hP : va_P G vwCl (stW kk a g u rv) H := vP_eq (st_full) hP
  replace hD : va_D A (stW kk a g u rv) := vD_eq (st_full) hD
  rcases opt_or ((sX5_roomAt g u rv i)) with hq_1 | ⟨k_2, hq_1⟩
  · refine top_eqV (y := .null) (by rw [hq_1]; rfl) ?_
    have eS := eS.trans (oe_n hq_1)
    refine lv_astore_nN (lv' := [(3, .null), (0, .ref (a 0)), (1, .int i), (2, .int v)]) hx hb dX5_takeGoods_5 rfl hl (by decide) rfl (fun ls hl => ?_)
    refine lv_aload_nN hx hb dX5_takeGoods_6 rfl (lv_at hl 0 rfl) ?_
    refine lv_ifnullN (tgt := 17) hx hb dX5_takeGoods_7 (by decide) ?_
    refine lv_iconst (v := 0) hx hb dX5_takeGoods_17 (by decide) ?_
    exact fin_z hx hb hr hlocks hK (vP_eq (congrArg (fun z : Int32 × (Nat → Nat → Int32) => (stW kk a g u z.2 : va_W)) eS.symm) hP) (vD_eq (congrArg (fun z : Int32 × (Nat → Nat → Int32) => (stW kk a g u z.2 : va_W)) eS.symm) hD) hS (congrArg (fun z : Int32 × (Nat → Nat → Int32) => z.1) eS) rfl dX5_takeGoods_18
  · refine top_eqV (y := .ref (a (3 + k_2))) (by rw [hq_1]; rfl) ?_
    have hk_2 := roomAt_lt hq_1
    have eS := eS.trans (oe_s hq_1)
    refine lv_astore_n (lv' := [(3, .ref (a (3 + k_2))), (0, .ref (a 0)), (1, .int i), (2, .int v)]) hx hb dX5_takeGoods_5 rfl hl (by decide) rfl (fun ls hl => ?_)
    refine lv_aload_n hx hb dX5_takeGoods_6 rfl (lv_at hl 0 rfl) ?_
    refine lv_ifnull hx hb dX5_takeGoods_7 ?_
    refine lv_iload_n hx hb dX5_takeGoods_10 rfl (lv_at hl 3 rfl) ?_
    refine k_goI (k_runS (rest := []) (As := [.int v]) hx hb hml hown hts hK hP hD hS hA hE hl.1 (c_X5_canBeTemperature l G kk v ) sl_X5_99 ⟨Nat.le_of_ble_eq_true rfl, Nat.le_of_ble_eq_true rfl, rfl, rfl⟩ [] rfl rfl ⟨Nat.zero_le _, Nat.zero_le _⟩ rfl (Nat.le_of_ble_eq_true rfl) dX5_takeGoods_11) hP hD hS hA [] rfl ads0 (fun H locs hP hD hS => ?_)
    replace hP : va_P G vwCl (stW kk a g u rv) H := hP
    replace hD : va_D A (stW kk a g u rv) := hD
    refine lv_if_ne (tgt := 19) hx hb dX5_takeGoods_14 (by decide) (fun c_14 => ?_) (fun c_14 => ?_)
    · have eS := eS.trans (if_neg c_14)
      refine lv_aload_n hx hb dX5_takeGoods_19 rfl (lv_at hl 0 rfl) ?_
      refine lv_iload_n hx hb dX5_takeGoods_20 rfl (lv_at hl 3 rfl) ?_
      refine r_putN hE hx hb hts hown hK hP hD hS fn_X5_103 fw_2_4 (3 + k_2) (st_at hk_2) rfl rfl (Nat.le_of_ble_eq_true rfl) dX5_takeGoods_21 (fun H locs hP hD hS => ?_)
      replace hP : va_P G vwCl (stW kk a g u (updR rv k_2 (upd (rv k_2) 4 v))) H := vP_eq (st_put hk_2 (upd (rv k_2) 4 v) rfl) hP
      replace hD : va_D A (stW kk a g u (updR rv k_2 (upd (rv k_2) 4 v))) := vD_eq (st_put hk_2 (upd (rv k_2) 4 v) rfl) hD
      refine lv_iconst (v := 1) hx hb dX5_takeGoods_24 (by decide) ?_
      exact fin_z hx hb hr hlocks hK (vP_eq (congrArg (fun z : Int32 × (Nat → Nat → Int32) => (stW kk a g u z.2 : va_W)) eS.symm) hP) (vD_eq (congrArg (fun z : Int32 × (Nat → Nat → Int32) => (stW kk a g u z.2 : va_W)) eS.symm) hD) hS (congrArg (fun z : Int32 × (Nat → Nat → Int32) => z.1) eS) rfl dX5_takeGoods_25
    · have eS := eS.trans (if_pos c_14)
      refine lv_iconst (v := 0) hx hb dX5_takeGoods_17 (by decide) ?_
      exact fin_z hx hb hr hlocks hK (vP_eq (congrArg (fun z : Int32 × (Nat → Nat → Int32) => (stW kk a g u z.2 : va_W)) eS.symm) hP) (vD_eq (congrArg (fun z : Int32 × (Nat → Nat → Int32) => (stW kk a g u z.2 : va_W)) eS.symm) hD) hS (congrArg (fun z : Int32 × (Nat → Nat → Int32) => z.1) eS) rfl dX5_takeGoods_18
def sX5_changeSetting_z_1 (g : Nat → Int32) (u : Nat → Int32) (rv : Nat → Nat → Int32) (w : Int32) (v : Int32) (z_1 : (Nat → Int32)) : Int32 × (Nat → Int32) :=
  (1, z_1)
def sX5_changeSetting (g : Nat → Int32) (u : Nat → Int32) (rv : Nat → Nat → Int32) (w : Int32) (v : Int32) : Int32 × (Nat → Int32) :=
  (if (sX3_isAllowed w v) = 0 then (0, u) else (sX5_changeSetting_z_1 g u rv w v (sX3_change u w v)))
set_option maxRecDepth 100000 in
set_option maxHeartbeats 4000000 in
theorem c_X5_changeSetting (l : Launch) (G : va_G) (kk : Nat → ClassId) (a : Nat → Nat) (g : Nat → Int32) (u : Nat → Int32) (rv : Nat → Nat → Int32) (w : Int32) (v : Int32)  : CC l yX5_changeSetting cX5_changeSetting 3 (some .boolean) (rmO 2 41) [.ref (a 0), .int w, .int v] G kk (stW kk a g u rv) (QI G kk (stW kk a g ((sX5_changeSetting g u rv w v).2) rv) ((sX5_changeSetting g u rv w v).1)) := by
  refine cc_start (by decide +kernel) (Nat.le_of_ble_eq_true rfl) ?_
  intro p e s m below meth c A ls hx hb hr hml hown hts hlocks hA hE hK hP hD hS hl
  have hown : s.vm.findClass RX5 = some m.cls := hown
  have hl : lv_has ls 3 [(0, .ref (a 0)), (1, .int w), (2, .int v)] := hl
  have eS : sX5_changeSetting g u rv w v = sX5_changeSetting g u rv w v := rfl
  refine lv_iload_n hx hb dX5_changeSetting_0 rfl (lv_at hl 1 rfl) ?_
  refine lv_iload_n hx hb dX5_changeSetting_1 rfl (lv_at hl 2 rfl) ?_
  refine k_goI (k_runS (rest := []) (As := [.int w, .int v]) hx hb hml hown hts hK hP hD hS hA hE hl.1 (c_X3_isAllowed l G kk w v ) sl_X5_106 ⟨Nat.le_of_ble_eq_true rfl, Nat.le_of_ble_eq_true rfl, rfl, rfl⟩ [] rfl rfl ⟨Nat.zero_le _, Nat.zero_le _⟩ rfl (Nat.le_of_ble_eq_true rfl) dX5_changeSetting_2) hP hD hS hA [] rfl ads0 (fun H locs hP hD hS => ?_)
  replace hP : va_P G vwCl (stW kk a g u rv) H := hP
  replace hD : va_D A (stW kk a g u rv) := hD
  refine lv_if_ne (tgt := 10) hx hb dX5_changeSetting_5 (by decide) (fun c_5 => ?_) (fun c_5 => ?_)
  · have eS := eS.trans (if_neg c_5)
    refine lv_aload_n hx hb dX5_changeSetting_10 rfl (lv_at hl 0 rfl) ?_
    refine r_get (v := .ref (a 1)) hx hb hts hown hK hP fl_X5_12 0 rfl rfl dX5_changeSetting_11 ?_
    refine lv_iload_n hx hb dX5_changeSetting_14 rfl (lv_at hl 1 rfl) ?_
    refine lv_iload_n hx hb dX5_changeSetting_15 rfl (lv_at hl 2 rfl) ?_
    refine k_goV (k_runV (rest := []) (As := [.int w, .int v]) hx hb hml hown hts hK hP hD hS hA hE hl.1 (c_X3_change l G kk (a 1) u w v ) vl_X5_110 rfl rfl rfl ⟨Nat.le_of_ble_eq_true rfl, Nat.le_of_ble_eq_true rfl, rfl, rfl⟩ [1] rfl rfl ⟨Nat.zero_le _, Nat.zero_le _⟩ rfl (Nat.le_of_ble_eq_true rfl) dX5_changeSetting_16) hP hD hS hA [1] rfl ads1 (fun H locs hP hD hS => ?_)
    replace hP : va_P G vwCl (stW kk a g (sX3_change u w v) rv) H := hP
    replace hD : va_D A (stW kk a g (sX3_change u w v) rv) := hD
    have eS : sX5_changeSetting g u rv w v = sX5_changeSetting_z_1 g u rv w v (sX3_change u w v) := eS
    generalize sX3_change u w v = z_1 at hP hD eS ⊢
    refine lv_iconst (v := 1) hx hb dX5_changeSetting_19 (by decide) ?_
    exact fin_z hx hb hr hlocks hK (vP_eq (congrArg (fun z : Int32 × (Nat → Int32) => (stW kk a g z.2 rv : va_W)) eS.symm) hP) (vD_eq (congrArg (fun z : Int32 × (Nat → Int32) => (stW kk a g z.2 rv : va_W)) eS.symm) hD) hS (congrArg (fun z : Int32 × (Nat → Int32) => z.1) eS) rfl dX5_changeSetting_20
  · have eS := eS.trans (if_pos c_5)
    refine lv_iconst (v := 0) hx hb dX5_changeSetting_8 (by decide) ?_
    exact fin_z hx hb hr hlocks hK (vP_eq (congrArg (fun z : Int32 × (Nat → Int32) => (stW kk a g z.2 rv : va_W)) eS.symm) hP) (vD_eq (congrArg (fun z : Int32 × (Nat → Int32) => (stW kk a g z.2 rv : va_W)) eS.symm) hD) hS (congrArg (fun z : Int32 × (Nat → Int32) => z.1) eS) rfl dX5_changeSetting_9
def sX5_beginDefrost (g : Nat → Int32) (u : Nat → Int32) (r : Nat → Int32) : (Nat → Int32) × (Nat → Int32) :=
  (if (r 9) = 2 then ((upd g 6 ((g 6) + 1)), (upd r 7 (u 5))) else (if (r 9) = 5 then ((upd g 6 ((g 6) + 1)), (upd r 7 (u 5))) else (g, r)))
set_option maxRecDepth 100000 in
set_option maxHeartbeats 4000000 in
theorem c_X5_beginDefrost (l : Launch) (G : va_G) (kk : Nat → ClassId) (h : Nat) (x : Nat) (y : Nat) (g : Nat → Int32) (u : Nat → Int32) (hr2 : Nat) (r : Nat → Int32)  : CC l yX5_beginDefrost cX5_beginDefrost 2 none (rmO 0 0) [.ref h, .ref hr2] G kk ([(h, .inr (5, sgF x y g)), (x, .inr (3, seF u)), (hr2, .inr (2, rmF r))]) (QV G kk ([(h, .inr (5, sgF x y ((sX5_beginDefrost g u r).1))), (x, .inr (3, seF u)), (hr2, .inr (2, rmF ((sX5_beginDefrost g u r).2)))])) := by
  refine cc_start (by decide +kernel) (Nat.le_of_ble_eq_true rfl) ?_
  intro p e s m below meth c A ls hx hb hr hml hown hts hlocks hA hE hK hP hD hS hl
  have hown : s.vm.findClass RX5 = some m.cls := hown
  have hl : lv_has ls 2 [(0, .ref h), (1, .ref hr2)] := hl
  have eS : sX5_beginDefrost g u r = sX5_beginDefrost g u r := rfl
  refine lv_aload_n hx hb dX5_beginDefrost_0 rfl (lv_at hl 1 rfl) ?_
  refine r_getN (v := .int (r 9)) hE hx hb hts hown hK hP fn_X5_141 2 rfl rfl dX5_beginDefrost_1 ?_
  refine lv_iconst (v := 2) hx hb dX5_beginDefrost_4 (by decide) ?_
  refine lv_icmp_eq (tgt := 16) hx hb dX5_beginDefrost_5 (by decide) (fun c_5 => ?_) (fun c_5 => ?_)
  · have eS := eS.trans (if_pos c_5)
    refine lv_aload_n hx hb dX5_beginDefrost_16 rfl (lv_at hl 1 rfl) ?_
    refine lv_aload_n hx hb dX5_beginDefrost_17 rfl (lv_at hl 0 rfl) ?_
    refine r_get (v := .ref x) hx hb hts hown hK hP fl_X5_12 0 rfl rfl dX5_beginDefrost_18 ?_
    refine r_getN (v := .int (u 5)) hE hx hb hts hown hK hP fn_X5_144 1 rfl rfl dX5_beginDefrost_21 ?_
    refine r_putN hE hx hb hts hown hK hP hD hS fn_X5_147 fw_2_7 2 rfl rfl rfl (Nat.le_of_ble_eq_true rfl) dX5_beginDefrost_24 (fun H locs hP hD hS => ?_)
    replace hP : va_P G vwCl ([(h, .inr (5, sgF x y g)), (x, .inr (3, seF u)), (hr2, .inr (2, rmF (upd r 7 (u 5))))]) H := hP
    replace hD : va_D A ([(h, .inr (5, sgF x y g)), (x, .inr (3, seF u)), (hr2, .inr (2, rmF (upd r 7 (u 5))))]) := hD
    refine lv_aload_n hx hb dX5_beginDefrost_27 rfl (lv_at hl 0 rfl) ?_
    refine lv_dup hx hb dX5_beginDefrost_28 rfl ?_
    refine r_get (v := .int (g 6)) hx hb hts hown hK hP fl_X5_50 0 rfl rfl dX5_beginDefrost_29 ?_
    refine lv_iconst (v := 1) hx hb dX5_beginDefrost_32 (by decide) ?_
    refine lv_iadd hx hb dX5_beginDefrost_33 ?_
    refine r_put hx hb hts hown hK hP hD hS fl_X5_50 fw_5_7 0 rfl rfl rfl (Nat.le_of_ble_eq_true rfl) dX5_beginDefrost_34 (fun H locs hP hD hS => ?_)
    replace hP : va_P G vwCl ([(h, .inr (5, sgF x y (upd g 6 ((g 6) + 1)))), (x, .inr (3, seF u)), (hr2, .inr (2, rmF (upd r 7 (u 5))))]) H := hP
    replace hD : va_D A ([(h, .inr (5, sgF x y (upd g 6 ((g 6) + 1)))), (x, .inr (3, seF u)), (hr2, .inr (2, rmF (upd r 7 (u 5))))]) := hD
    exact fin_v hx hb hr hlocks hK (vP_eq (congrArg (fun z : (Nat → Int32) × (Nat → Int32) => ([(h, .inr (5, sgF x y z.1)), (x, .inr (3, seF u)), (hr2, .inr (2, rmF z.2))] : va_W)) eS.symm) hP) (vD_eq (congrArg (fun z : (Nat → Int32) × (Nat → Int32) => ([(h, .inr (5, sgF x y z.1)), (x, .inr (3, seF u)), (hr2, .inr (2, rmF z.2))] : va_W)) eS.symm) hD) hS dX5_beginDefrost_37
  · have eS := eS.trans (if_neg c_5)
    refine lv_aload_n hx hb dX5_beginDefrost_8 rfl (lv_at hl 1 rfl) ?_
    refine r_getN (v := .int (r 9)) hE hx hb hts hown hK hP fn_X5_141 2 rfl rfl dX5_beginDefrost_9 ?_
    refine lv_iconst (v := 5) hx hb dX5_beginDefrost_12 (by decide) ?_
    refine lv_icmp_ne (tgt := 37) hx hb dX5_beginDefrost_13 (by decide) (fun c_13 => ?_) (fun c_13 => ?_)
    · have eS := eS.trans (if_neg c_13)
      exact fin_v hx hb hr hlocks hK (vP_eq (congrArg (fun z : (Nat → Int32) × (Nat → Int32) => ([(h, .inr (5, sgF x y z.1)), (x, .inr (3, seF u)), (hr2, .inr (2, rmF z.2))] : va_W)) eS.symm) hP) (vD_eq (congrArg (fun z : (Nat → Int32) × (Nat → Int32) => ([(h, .inr (5, sgF x y z.1)), (x, .inr (3, seF u)), (hr2, .inr (2, rmF z.2))] : va_W)) eS.symm) hD) hS dX5_beginDefrost_37
    · have eS := eS.trans (if_pos c_13)
      refine lv_aload_n hx hb dX5_beginDefrost_16 rfl (lv_at hl 1 rfl) ?_
      refine lv_aload_n hx hb dX5_beginDefrost_17 rfl (lv_at hl 0 rfl) ?_
      refine r_get (v := .ref x) hx hb hts hown hK hP fl_X5_12 0 rfl rfl dX5_beginDefrost_18 ?_
      refine r_getN (v := .int (u 5)) hE hx hb hts hown hK hP fn_X5_144 1 rfl rfl dX5_beginDefrost_21 ?_
      refine r_putN hE hx hb hts hown hK hP hD hS fn_X5_147 fw_2_7 2 rfl rfl rfl (Nat.le_of_ble_eq_true rfl) dX5_beginDefrost_24 (fun H locs hP hD hS => ?_)
      replace hP : va_P G vwCl ([(h, .inr (5, sgF x y g)), (x, .inr (3, seF u)), (hr2, .inr (2, rmF (upd r 7 (u 5))))]) H := hP
      replace hD : va_D A ([(h, .inr (5, sgF x y g)), (x, .inr (3, seF u)), (hr2, .inr (2, rmF (upd r 7 (u 5))))]) := hD
      refine lv_aload_n hx hb dX5_beginDefrost_27 rfl (lv_at hl 0 rfl) ?_
      refine lv_dup hx hb dX5_beginDefrost_28 rfl ?_
      refine r_get (v := .int (g 6)) hx hb hts hown hK hP fl_X5_50 0 rfl rfl dX5_beginDefrost_29 ?_
      refine lv_iconst (v := 1) hx hb dX5_beginDefrost_32 (by decide) ?_
      refine lv_iadd hx hb dX5_beginDefrost_33 ?_
      refine r_put hx hb hts hown hK hP hD hS fl_X5_50 fw_5_7 0 rfl rfl rfl (Nat.le_of_ble_eq_true rfl) dX5_beginDefrost_34 (fun H locs hP hD hS => ?_)
      replace hP : va_P G vwCl ([(h, .inr (5, sgF x y (upd g 6 ((g 6) + 1)))), (x, .inr (3, seF u)), (hr2, .inr (2, rmF (upd r 7 (u 5))))]) H := hP
      replace hD : va_D A ([(h, .inr (5, sgF x y (upd g 6 ((g 6) + 1)))), (x, .inr (3, seF u)), (hr2, .inr (2, rmF (upd r 7 (u 5))))]) := hD
      exact fin_v hx hb hr hlocks hK (vP_eq (congrArg (fun z : (Nat → Int32) × (Nat → Int32) => ([(h, .inr (5, sgF x y z.1)), (x, .inr (3, seF u)), (hr2, .inr (2, rmF z.2))] : va_W)) eS.symm) hP) (vD_eq (congrArg (fun z : (Nat → Int32) × (Nat → Int32) => ([(h, .inr (5, sgF x y z.1)), (x, .inr (3, seF u)), (hr2, .inr (2, rmF z.2))] : va_W)) eS.symm) hD) hS dX5_beginDefrost_37
def sX5_countMinute_j62 (g : Nat → Int32) (r : Nat → Int32) (x_1 : Int32) (x_2 : Int32) (x_3 : Int32) : (Nat → Int32) × (Nat → Int32) :=
  (if (sX2_isWarm (upd r 8 ((r 8) + x_1))) = 0 then ((upd (upd (upd g 7 ((g 7) + x_2)) 8 ((g 8) + x_3)) 9 ((g 9) + 0)), (upd r 8 ((r 8) + x_1))) else ((upd (upd (upd g 7 ((g 7) + x_2)) 8 ((g 8) + x_3)) 9 ((g 9) + 1)), (upd r 8 ((r 8) + x_1))))
def sX5_countMinute_j39 (g : Nat → Int32) (r : Nat → Int32) (x_1 : Int32) (x_2 : Int32) : (Nat → Int32) × (Nat → Int32) :=
  (sX5_countMinute_j62 g r x_1 x_2 (if (r 9) = 6 then 1 else 0))
def sX5_countMinute_j17 (g : Nat → Int32) (r : Nat → Int32) (x_1 : Int32) : (Nat → Int32) × (Nat → Int32) :=
  (sX5_countMinute_j39 g r x_1 (if (r 9) = 4 then 1 else 0))
def sX5_countMinute (g : Nat → Int32) (r : Nat → Int32) : (Nat → Int32) × (Nat → Int32) :=
  (sX5_countMinute_j17 g r (if (sX2_isCooled r) = 0 then 0 else 1))
set_option maxRecDepth 100000 in
set_option maxHeartbeats 4000000 in
theorem c_X5_countMinute (l : Launch) (G : va_G) (kk : Nat → ClassId) (h : Nat) (x : Nat) (y : Nat) (g : Nat → Int32) (hr2 : Nat) (r : Nat → Int32)  : CC l yX5_countMinute cX5_countMinute 2 none (rmO 1 20) [.ref h, .ref hr2] G kk ([(h, .inr (5, sgF x y g)), (hr2, .inr (2, rmF r))]) (QV G kk ([(h, .inr (5, sgF x y ((sX5_countMinute g r).1))), (hr2, .inr (2, rmF ((sX5_countMinute g r).2)))])) := by
  refine cc_start (by decide +kernel) (Nat.le_of_ble_eq_true rfl) ?_
  intro p e s m below meth c A ls hx hb hr hml hown hts hlocks hA hE hK hP hD hS hl
  have hown : s.vm.findClass RX5 = some m.cls := hown
  have hl : lv_has ls 2 [(0, .ref h), (1, .ref hr2)] := hl
  have eS : sX5_countMinute g r = sX5_countMinute g r := rfl
  refine lv_aload_n hx hb dX5_countMinute_0 rfl (lv_at hl 1 rfl) ?_
  refine lv_dup hx hb dX5_countMinute_1 rfl ?_
  refine r_getN (v := .int (r 8)) hE hx hb hts hown hK hP fn_X5_150 1 rfl rfl dX5_countMinute_2 ?_
  refine lv_aload_n hx hb dX5_countMinute_5 rfl (lv_at hl 1 rfl) ?_
  refine k_goI (k_runV (rest := [.int (r 8), .ref hr2]) (As := []) hx hb hml hown hts hK hP hD hS hA hE hl.1 (c_X2_isCooled l G kk hr2 r ) vl_X5_153 rfl rfl rfl ⟨Nat.le_of_ble_eq_true rfl, Nat.le_of_ble_eq_true rfl, rfl, rfl⟩ [1] rfl rfl ⟨Nat.zero_le _, Nat.zero_le _⟩ rfl (Nat.le_of_ble_eq_true rfl) dX5_countMinute_6) hP hD hS hA [1] rfl ads1 (fun H locs hP hD hS => ?_)
  replace hP : va_P G vwCl ([(h, .inr (5, sgF x y g)), (hr2, .inr (2, rmF r))]) H := hP
  replace hD : va_D A ([(h, .inr (5, sgF x y g)), (hr2, .inr (2, rmF r))]) := hD
  have J_4 : ∀ (x_1 : Int32) (ex_1 : x_1 = (if (sX2_isCooled r) = 0 then 0 else 1)) (eS : sX5_countMinute g r = sX5_countMinute_j17 g r x_1) (H : Heap) (locs : List Loc) (ls : Array Slot) (hP : va_P G vwCl ([(h, .inr (5, sgF x y g)), (hr2, .inr (2, rmF r))]) H) (hD : va_D A ([(h, .inr (5, sgF x y g)), (hr2, .inr (2, rmF r))])) (hS : va_S A s.heap H locs) (hl : lv_has ls 2 [(0, .ref h), (1, .ref hr2)]), GO p l e (rmO 1 20) s m ([.ref h, .ref hr2] : List Value).toArray below meth c A (QV G kk ([(h, .inr (5, sgF x y ((sX5_countMinute g r).1))), (hr2, .inr (2, rmF ((sX5_countMinute g r).2)))])) H locs (F0 m 17 ls [.int x_1, .int (r 8), .ref hr2]) := by
    intro x_1 ex_1 eS H locs ls hP hD hS hl
    refine lv_iadd hx hb dX5_countMinute_17 ?_
    refine r_putN hE hx hb hts hown hK hP hD hS fn_X5_150 fw_2_8 1 rfl rfl rfl (Nat.le_of_ble_eq_true rfl) dX5_countMinute_18 (fun H locs hP hD hS => ?_)
    replace hP : va_P G vwCl ([(h, .inr (5, sgF x y g)), (hr2, .inr (2, rmF (upd r 8 ((r 8) + x_1))))]) H := hP
    replace hD : va_D A ([(h, .inr (5, sgF x y g)), (hr2, .inr (2, rmF (upd r 8 ((r 8) + x_1))))]) := hD
    refine lv_aload_n hx hb dX5_countMinute_21 rfl (lv_at hl 0 rfl) ?_
    refine lv_dup hx hb dX5_countMinute_22 rfl ?_
    refine r_get (v := .int (g 7)) hx hb hts hown hK hP fl_X5_53 0 rfl rfl dX5_countMinute_23 ?_
    refine lv_aload_n hx hb dX5_countMinute_26 rfl (lv_at hl 1 rfl) ?_
    refine r_getN (v := .int (r 9)) hE hx hb hts hown hK hP fn_X5_141 1 rfl rfl dX5_countMinute_27 ?_
    refine lv_iconst (v := 4) hx hb dX5_countMinute_30 (by decide) ?_
    have J_5 : ∀ (x_2 : Int32) (ex_2 : x_2 = (if (r 9) = 4 then 1 else 0)) (eS : sX5_countMinute g r = sX5_countMinute_j39 g r x_1 x_2) (H : Heap) (locs : List Loc) (ls : Array Slot) (hP : va_P G vwCl ([(h, .inr (5, sgF x y g)), (hr2, .inr (2, rmF (upd r 8 ((r 8) + x_1))))]) H) (hD : va_D A ([(h, .inr (5, sgF x y g)), (hr2, .inr (2, rmF (upd r 8 ((r 8) + x_1))))])) (hS : va_S A s.heap H locs) (hl : lv_has ls 2 [(0, .ref h), (1, .ref hr2)]), GO p l e (rmO 1 20) s m ([.ref h, .ref hr2] : List Value).toArray below meth c A (QV G kk ([(h, .inr (5, sgF x y ((sX5_countMinute g r).1))), (hr2, .inr (2, rmF ((sX5_countMinute g r).2)))])) H locs (F0 m 39 ls [.int x_2, .int (g 7), .ref h]) := by
      intro x_2 ex_2 eS H locs ls hP hD hS hl
      refine lv_iadd hx hb dX5_countMinute_39 ?_
      refine r_put hx hb hts hown hK hP hD hS fl_X5_53 fw_5_8 0 rfl rfl rfl (Nat.le_of_ble_eq_true rfl) dX5_countMinute_40 (fun H locs hP hD hS => ?_)
      replace hP : va_P G vwCl ([(h, .inr (5, sgF x y (upd g 7 ((g 7) + x_2)))), (hr2, .inr (2, rmF (upd r 8 ((r 8) + x_1))))]) H := hP
      replace hD : va_D A ([(h, .inr (5, sgF x y (upd g 7 ((g 7) + x_2)))), (hr2, .inr (2, rmF (upd r 8 ((r 8) + x_1))))]) := hD
      refine lv_aload_n hx hb dX5_countMinute_43 rfl (lv_at hl 0 rfl) ?_
      refine lv_dup hx hb dX5_countMinute_44 rfl ?_
      refine r_get (v := .int (g 8)) hx hb hts hown hK hP fl_X5_56 0 rfl rfl dX5_countMinute_45 ?_
      refine lv_aload_n hx hb dX5_countMinute_48 rfl (lv_at hl 1 rfl) ?_
      refine r_getN (v := .int (r 9)) hE hx hb hts hown hK hP fn_X5_141 1 rfl rfl dX5_countMinute_49 ?_
      refine lv_bipush (v := 6) hx hb dX5_countMinute_52 (by decide) ?_
      have J_6 : ∀ (x_3 : Int32) (ex_3 : x_3 = (if (r 9) = 6 then 1 else 0)) (eS : sX5_countMinute g r = sX5_countMinute_j62 g r x_1 x_2 x_3) (H : Heap) (locs : List Loc) (ls : Array Slot) (hP : va_P G vwCl ([(h, .inr (5, sgF x y (upd g 7 ((g 7) + x_2)))), (hr2, .inr (2, rmF (upd r 8 ((r 8) + x_1))))]) H) (hD : va_D A ([(h, .inr (5, sgF x y (upd g 7 ((g 7) + x_2)))), (hr2, .inr (2, rmF (upd r 8 ((r 8) + x_1))))])) (hS : va_S A s.heap H locs) (hl : lv_has ls 2 [(0, .ref h), (1, .ref hr2)]), GO p l e (rmO 1 20) s m ([.ref h, .ref hr2] : List Value).toArray below meth c A (QV G kk ([(h, .inr (5, sgF x y ((sX5_countMinute g r).1))), (hr2, .inr (2, rmF ((sX5_countMinute g r).2)))])) H locs (F0 m 62 ls [.int x_3, .int (g 8), .ref h]) := by
        intro x_3 ex_3 eS H locs ls hP hD hS hl
        refine lv_iadd hx hb dX5_countMinute_62 ?_
        refine r_put hx hb hts hown hK hP hD hS fl_X5_56 fw_5_9 0 rfl rfl rfl (Nat.le_of_ble_eq_true rfl) dX5_countMinute_63 (fun H locs hP hD hS => ?_)
        replace hP : va_P G vwCl ([(h, .inr (5, sgF x y (upd (upd g 7 ((g 7) + x_2)) 8 ((g 8) + x_3)))), (hr2, .inr (2, rmF (upd r 8 ((r 8) + x_1))))]) H := hP
        replace hD : va_D A ([(h, .inr (5, sgF x y (upd (upd g 7 ((g 7) + x_2)) 8 ((g 8) + x_3)))), (hr2, .inr (2, rmF (upd r 8 ((r 8) + x_1))))]) := hD
        refine lv_aload_n hx hb dX5_countMinute_66 rfl (lv_at hl 0 rfl) ?_
        refine lv_dup hx hb dX5_countMinute_67 rfl ?_
        refine r_get (v := .int (g 9)) hx hb hts hown hK hP fl_X5_59 0 rfl rfl dX5_countMinute_68 ?_
        refine lv_aload_n hx hb dX5_countMinute_71 rfl (lv_at hl 1 rfl) ?_
        refine k_goI (k_runV (rest := [.int (g 9), .ref h]) (As := []) hx hb hml hown hts hK hP hD hS hA hE hl.1 (c_X2_isWarm l G kk hr2 (upd r 8 ((r 8) + x_1)) ) vl_X5_156 rfl rfl rfl ⟨Nat.le_of_ble_eq_true rfl, Nat.le_of_ble_eq_true rfl, rfl, rfl⟩ [1] rfl rfl ⟨Nat.zero_le _, Nat.zero_le _⟩ rfl (Nat.le_of_ble_eq_true rfl) dX5_countMinute_72) hP hD hS hA [1] rfl ads1 (fun H locs hP hD hS => ?_)
        replace hP : va_P G vwCl ([(h, .inr (5, sgF x y (upd (upd g 7 ((g 7) + x_2)) 8 ((g 8) + x_3)))), (hr2, .inr (2, rmF (upd r 8 ((r 8) + x_1))))]) H := hP
        replace hD : va_D A ([(h, .inr (5, sgF x y (upd (upd g 7 ((g 7) + x_2)) 8 ((g 8) + x_3)))), (hr2, .inr (2, rmF (upd r 8 ((r 8) + x_1))))]) := hD
        refine lv_if_eq (tgt := 82) hx hb dX5_countMinute_75 (by decide) (fun c_75 => ?_) (fun c_75 => ?_)
        · have eS := eS.trans (if_pos c_75)
          refine lv_iconst (v := 0) hx hb dX5_countMinute_82 (by decide) ?_
          refine lv_iadd hx hb dX5_countMinute_83 ?_
          refine r_put hx hb hts hown hK hP hD hS fl_X5_59 fw_5_10 0 rfl rfl rfl (Nat.le_of_ble_eq_true rfl) dX5_countMinute_84 (fun H locs hP hD hS => ?_)
          replace hP : va_P G vwCl ([(h, .inr (5, sgF x y (upd (upd (upd g 7 ((g 7) + x_2)) 8 ((g 8) + x_3)) 9 ((g 9) + 0)))), (hr2, .inr (2, rmF (upd r 8 ((r 8) + x_1))))]) H := hP
          replace hD : va_D A ([(h, .inr (5, sgF x y (upd (upd (upd g 7 ((g 7) + x_2)) 8 ((g 8) + x_3)) 9 ((g 9) + 0)))), (hr2, .inr (2, rmF (upd r 8 ((r 8) + x_1))))]) := hD
          exact fin_v hx hb hr hlocks hK (vP_eq (congrArg (fun z : (Nat → Int32) × (Nat → Int32) => ([(h, .inr (5, sgF x y z.1)), (hr2, .inr (2, rmF z.2))] : va_W)) eS.symm) hP) (vD_eq (congrArg (fun z : (Nat → Int32) × (Nat → Int32) => ([(h, .inr (5, sgF x y z.1)), (hr2, .inr (2, rmF z.2))] : va_W)) eS.symm) hD) hS dX5_countMinute_87
        · have eS := eS.trans (if_neg c_75)
          refine lv_iconst (v := 1) hx hb dX5_countMinute_78 (by decide) ?_
          refine lv_goto (tgt := 83) hx hb dX5_countMinute_79 (by decide) ?_
          refine lv_iadd hx hb dX5_countMinute_83 ?_
          refine r_put hx hb hts hown hK hP hD hS fl_X5_59 fw_5_10 0 rfl rfl rfl (Nat.le_of_ble_eq_true rfl) dX5_countMinute_84 (fun H locs hP hD hS => ?_)
          replace hP : va_P G vwCl ([(h, .inr (5, sgF x y (upd (upd (upd g 7 ((g 7) + x_2)) 8 ((g 8) + x_3)) 9 ((g 9) + 1)))), (hr2, .inr (2, rmF (upd r 8 ((r 8) + x_1))))]) H := hP
          replace hD : va_D A ([(h, .inr (5, sgF x y (upd (upd (upd g 7 ((g 7) + x_2)) 8 ((g 8) + x_3)) 9 ((g 9) + 1)))), (hr2, .inr (2, rmF (upd r 8 ((r 8) + x_1))))]) := hD
          exact fin_v hx hb hr hlocks hK (vP_eq (congrArg (fun z : (Nat → Int32) × (Nat → Int32) => ([(h, .inr (5, sgF x y z.1)), (hr2, .inr (2, rmF z.2))] : va_W)) eS.symm) hP) (vD_eq (congrArg (fun z : (Nat → Int32) × (Nat → Int32) => ([(h, .inr (5, sgF x y z.1)), (hr2, .inr (2, rmF z.2))] : va_W)) eS.symm) hD) hS dX5_countMinute_87
      refine lv_icmp_ne (tgt := 61) hx hb dX5_countMinute_54 (by decide) (fun c_54 => ?_) (fun c_54 => ?_)
      · refine lv_iconst (v := 0) hx hb dX5_countMinute_61 (by decide) ?_
        exact J_6 0 (if_neg c_54).symm (eS.trans (cg1 (sX5_countMinute_j62 g r x_1 x_2) (if_neg c_54))) _ _ ls hP hD hS (lv_sub hl [0, 1] rfl)
      · refine lv_iconst (v := 1) hx hb dX5_countMinute_57 (by decide) ?_
        refine lv_goto (tgt := 62) hx hb dX5_countMinute_58 (by decide) ?_
        exact J_6 1 (if_pos c_54).symm (eS.trans (cg1 (sX5_countMinute_j62 g r x_1 x_2) (if_pos c_54))) _ _ ls hP hD hS (lv_sub hl [0, 1] rfl)
    refine lv_icmp_ne (tgt := 38) hx hb dX5_countMinute_31 (by decide) (fun c_31 => ?_) (fun c_31 => ?_)
    · refine lv_iconst (v := 0) hx hb dX5_countMinute_38 (by decide) ?_
      exact J_5 0 (if_neg c_31).symm (eS.trans (cg1 (sX5_countMinute_j39 g r x_1) (if_neg c_31))) _ _ ls hP hD hS (lv_sub hl [0, 1] rfl)
    · refine lv_iconst (v := 1) hx hb dX5_countMinute_34 (by decide) ?_
      refine lv_goto (tgt := 39) hx hb dX5_countMinute_35 (by decide) ?_
      exact J_5 1 (if_pos c_31).symm (eS.trans (cg1 (sX5_countMinute_j39 g r x_1) (if_pos c_31))) _ _ ls hP hD hS (lv_sub hl [0, 1] rfl)
  refine lv_if_eq (tgt := 16) hx hb dX5_countMinute_9 (by decide) (fun c_9 => ?_) (fun c_9 => ?_)
  · refine lv_iconst (v := 0) hx hb dX5_countMinute_16 (by decide) ?_
    exact J_4 0 (if_pos c_9).symm (eS.trans (cg1 (sX5_countMinute_j17 g r) (if_pos c_9))) _ _ ls hP hD hS (lv_sub hl [0, 1] rfl)
  · refine lv_iconst (v := 1) hx hb dX5_countMinute_12 (by decide) ?_
    refine lv_goto (tgt := 17) hx hb dX5_countMinute_13 (by decide) ?_
    exact J_4 1 (if_neg c_9).symm (eS.trans (cg1 (sX5_countMinute_j17 g r) (if_neg c_9))) _ _ ls hP hD hS (lv_sub hl [0, 1] rfl)
def lp_X5_nextToCool_16 (g : Nat → Int32) (u : Nat → Int32) (rv : Nat → Nat → Int32) : Nat → Nat → Option Nat → Int32 → Option Nat
  | 0, i, w, mx => (oe w none (fun k_1 => (some k_1)))
  | d + 1, i, w, mx => (if ((rv i) 9) = 7 then (if (((rv i) 4) - ((rv i) 2)) ≤ mx then (lp_X5_nextToCool_16 g u rv d (i + 1) w mx) else (lp_X5_nextToCool_16 g u rv d (i + 1) (some i) (((rv i) 4) - ((rv i) 2)))) else (lp_X5_nextToCool_16 g u rv d (i + 1) w mx))
def sX5_nextToCool (g : Nat → Int32) (u : Nat → Int32) (rv : Nat → Nat → Int32) : Option Nat :=
  (lp_X5_nextToCool_16 g u rv 6 0 none 0)
set_option maxRecDepth 100000 in
set_option maxHeartbeats 4000000 in
theorem c_X5_nextToCool (l : Launch) (G : va_G) (kk : Nat → ClassId) (a : Nat → Nat) (g : Nat → Int32) (u : Nat → Int32) (rv : Nat → Nat → Int32)  : CC l yX5_nextToCool cX5_nextToCool 8 (some (.object "MeterRooms$Room")) (rmO 0 0) [.ref (a 0)] G kk (stW kk a g u rv) (QQ G kk (stW kk a g u rv) (Option.map (fun k => a (3 + k)) (sX5_nextToCool g u rv))) := by
  refine cc_start (by decide +kernel) (Nat.le_of_ble_eq_true rfl) ?_
  intro p e s m below meth c A ls hx hb hr hml hown hts hlocks hA hE hK hP hD hS hl
  have hown : s.vm.findClass RX5 = some m.cls := hown
  have hl : lv_has ls 8 [(0, .ref (a 0))] := hl
  have eS : sX5_nextToCool g u rv = sX5_nextToCool g u rv := rfl
  refine lv_null hx hb dX5_nextToCool_0 ?_
  refine lv_astore_nN (lv' := [(1, .null), (0, .ref (a 0))]) hx hb dX5_nextToCool_1 rfl hl (by decide) rfl (fun ls hl => ?_)
  refine lv_iconst (v := 0) hx hb dX5_nextToCool_2 (by decide) ?_
  refine lv_istore_n (lv' := [(2, .int 0), (1, .null), (0, .ref (a 0))]) hx hb dX5_nextToCool_3 rfl hl (by decide) rfl (fun ls hl => ?_)
  refine lv_aload_n hx hb dX5_nextToCool_4 rfl (lv_at hl 2 rfl) ?_
  refine r_get (v := .ref (a 2)) hx hb hts hown hK hP fl_X5_20 0 rfl rfl dX5_nextToCool_5 ?_
  refine lv_astore_n (lv' := [(3, .ref (a 2)), (2, .int 0), (1, .null), (0, .ref (a 0))]) hx hb dX5_nextToCool_8 rfl hl (by decide) rfl (fun ls hl => ?_)
  refine lv_aload_n hx hb dX5_nextToCool_9 rfl (lv_at hl 0 rfl) ?_
  refine r_alen (t0 := 3) hx hb hK hP 2 rfl rfl dX5_nextToCool_10 ?_
  refine lv_istore (lv' := [(4, .int (nI 6)), (3, .ref (a 2)), (2, .int 0), (1, .null), (0, .ref (a 0))]) hx hb dX5_nextToCool_11 hl (by decide) rfl (fun ls hl => ?_)
  refine lv_iconst (v := 0) hx hb dX5_nextToCool_13 (by decide) ?_
  refine lv_istore (lv' := [(5, .int 0), (4, .int (nI 6)), (3, .ref (a 2)), (2, .int 0), (1, .null), (0, .ref (a 0))]) hx hb dX5_nextToCool_14 hl (by decide) rfl (fun ls hl => ?_)
  have L_2 : ∀ (d : Nat) (i : Nat) (w : Option Nat) (mx : Int32) (hd : i + d = 6) (hw : ∀ k, w = some k → k < 6) (eS : sX5_nextToCool g u rv = lp_X5_nextToCool_16 g u rv d i w mx) (H : Heap) (locs : List Loc) (ls : Array Slot) (hP : va_P G vwCl (stW kk a g u rv) H) (hD : va_D A (stW kk a g u rv)) (hS : va_S A s.heap H locs) (hl : lv_has ls 8 [(4, .int (nI 6)), (3, .ref (a 2)), (0, .ref (a 0)), (5, .int (nI i)), (1, va_rf (Option.map (fun k => a (3 + k)) w)), (2, .int mx)]), GO p l e (rmO 0 0) s m ([.ref (a 0)] : List Value).toArray below meth c A (QQ G kk (stW kk a g u rv) (Option.map (fun k => a (3 + k)) (sX5_nextToCool g u rv))) H locs (F0 m 16 ls []) := by
    intro d
    induction d with
    | zero =>
      intro i w mx hd hw eS H locs ls hP hD hS hl
      refine lv_iload hx hb dX5_nextToCool_16 (lv_at hl 3 rfl) ?_
      refine lv_iload hx hb dX5_nextToCool_18 (lv_at hl 0 rfl) ?_
      refine lv_icmp_ge (tgt := 70) hx hb dX5_nextToCool_20 (by decide) (fun c_20 => ?_) (fun c_20 => absurd (nI_le (by omega) (by omega)) c_20)
      rcases opt_or w with rfl | ⟨k_1, rfl⟩
      · have hl : lv_has ls 8 [(4, .int (nI 6)), (3, .ref (a 2)), (0, .ref (a 0)), (5, .int (nI i)), (1, .null), (2, .int mx)] := hl
        have eS := eS.trans (oe_n rfl)
        refine lv_aload_nN hx hb dX5_nextToCool_70 rfl (lv_at hl 4 rfl) ?_
        exact fin_q (v := (Option.map (fun k => a (3 + k)) none)) hx hb hr hlocks hK hP hD hS (congrArg (fun z : Option Nat => (Option.map (fun k => a (3 + k)) z)) eS) dX5_nextToCool_71
      · have hl : lv_has ls 8 [(4, .int (nI 6)), (3, .ref (a 2)), (0, .ref (a 0)), (5, .int (nI i)), (1, .ref (a (3 + k_1))), (2, .int mx)] := hl
        have hk_1 := hw k_1 rfl
        have eS := eS.trans (oe_s rfl)
        refine lv_aload_n hx hb dX5_nextToCool_70 rfl (lv_at hl 4 rfl) ?_
        exact fin_q (v := (Option.map (fun k => a (3 + k)) (some k_1))) hx hb hr hlocks hK hP hD hS (congrArg (fun z : Option Nat => (Option.map (fun k => a (3 + k)) z)) eS) dX5_nextToCool_71
    | succ d ih =>
      intro i w mx hd hw eS H locs ls hP hD hS hl
      have hi : i < 6 := by omega
      refine lv_iload hx hb dX5_nextToCool_16 (lv_at hl 3 rfl) ?_
      refine lv_iload hx hb dX5_nextToCool_18 (lv_at hl 0 rfl) ?_
      refine lv_icmp_ge (tgt := 70) hx hb dX5_nextToCool_20 (by decide) (fun c_20 => absurd c_20 (nI_ge (by omega) (by decide))) (fun c_20 => ?_)
      refine lv_aload_n hx hb dX5_nextToCool_23 rfl (lv_at hl 1 rfl) ?_
      refine lv_iload hx hb dX5_nextToCool_24 (lv_at hl 3 rfl) ?_
      refine r_aald hx hb hK hP 2 3 rfl rfl i (a (3 + i)) rfl (by omega) (by decide) rfl dX5_nextToCool_26 ?_
      refine lv_astore (lv' := [(6, .ref (a (3 + i))), (4, .int (nI 6)), (3, .ref (a 2)), (0, .ref (a 0)), (5, .int (nI i)), (1, va_rf (Option.map (fun k => a (3 + k)) w)), (2, .int mx)]) hx hb dX5_nextToCool_27 hl (by decide) rfl (fun ls hl => ?_)
      refine lv_aload hx hb dX5_nextToCool_29 (lv_at hl 0 rfl) ?_
      refine r_getN (v := .int ((rv i) 4)) hE hx hb hts hown hK hP fn_X5_103 (3 + i) (st_at hi) rfl dX5_nextToCool_31 ?_
      refine lv_aload hx hb dX5_nextToCool_34 (lv_at hl 0 rfl) ?_
      refine r_getN (v := .int ((rv i) 2)) hE hx hb hts hown hK hP fn_X5_204 (3 + i) (st_at hi) rfl dX5_nextToCool_36 ?_
      refine lv_isub hx hb dX5_nextToCool_39 ?_
      refine lv_istore (lv' := [(7, .int (((rv i) 4) - ((rv i) 2))), (6, .ref (a (3 + i))), (4, .int (nI 6)), (3, .ref (a 2)), (0, .ref (a 0)), (5, .int (nI i)), (1, va_rf (Option.map (fun k => a (3 + k)) w)), (2, .int mx)]) hx hb dX5_nextToCool_40 hl (by decide) rfl (fun ls hl => ?_)
      refine lv_aload hx hb dX5_nextToCool_42 (lv_at hl 1 rfl) ?_
      refine r_getN (v := .int ((rv i) 9)) hE hx hb hts hown hK hP fn_X5_141 (3 + i) (st_at hi) rfl dX5_nextToCool_44 ?_
      refine lv_bipush (v := 7) hx hb dX5_nextToCool_47 (by decide) ?_
      refine lv_icmp_ne (tgt := 64) hx hb dX5_nextToCool_49 (by decide) (fun c_49 => ?_) (fun c_49 => ?_)
      · have eS := eS.trans (if_neg c_49)
        refine lv_iinc (v := (nI (i + 1))) (lv' := [(5, .int (nI (i + 1))), (7, .int (((rv i) 4) - ((rv i) 2))), (6, .ref (a (3 + i))), (4, .int (nI 6)), (3, .ref (a 2)), (0, .ref (a 0)), (1, va_rf (Option.map (fun k => a (3 + k)) w)), (2, .int mx)]) hx hb dX5_nextToCool_64 hl (k := 5) rfl (nI_add i 1) (by decide) rfl (fun ls hl => ?_)
        refine lv_goto (tgt := 16) hx hb dX5_nextToCool_67 (by decide) ?_
        exact ih (i + 1) w mx (by omega) (by first | exact hw | (intro k h; cases h; exact hi)) eS _ _ ls hP hD hS (lv_sub hl [3, 4, 5, 0, 6, 7] rfl)
      · have eS := eS.trans (if_pos c_49)
        refine lv_iload hx hb dX5_nextToCool_52 (lv_at hl 0 rfl) ?_
        refine lv_iload_n hx hb dX5_nextToCool_54 rfl (lv_at hl 7 rfl) ?_
        refine lv_icmp_le (tgt := 64) hx hb dX5_nextToCool_55 (by decide) (fun c_55 => ?_) (fun c_55 => ?_)
        · have eS := eS.trans (if_pos c_55)
          refine lv_iinc (v := (nI (i + 1))) (lv' := [(5, .int (nI (i + 1))), (7, .int (((rv i) 4) - ((rv i) 2))), (6, .ref (a (3 + i))), (4, .int (nI 6)), (3, .ref (a 2)), (0, .ref (a 0)), (1, va_rf (Option.map (fun k => a (3 + k)) w)), (2, .int mx)]) hx hb dX5_nextToCool_64 hl (k := 5) rfl (nI_add i 1) (by decide) rfl (fun ls hl => ?_)
          refine lv_goto (tgt := 16) hx hb dX5_nextToCool_67 (by decide) ?_
          exact ih (i + 1) w mx (by omega) (by first | exact hw | (intro k h; cases h; exact hi)) eS _ _ ls hP hD hS (lv_sub hl [3, 4, 5, 0, 6, 7] rfl)
        · have eS := eS.trans (if_neg c_55)
          refine lv_aload hx hb dX5_nextToCool_58 (lv_at hl 1 rfl) ?_
          refine lv_astore_n (lv' := [(1, .ref (a (3 + i))), (7, .int (((rv i) 4) - ((rv i) 2))), (6, .ref (a (3 + i))), (4, .int (nI 6)), (3, .ref (a 2)), (0, .ref (a 0)), (5, .int (nI i)), (2, .int mx)]) hx hb dX5_nextToCool_60 rfl hl (by decide) rfl (fun ls hl => ?_)
          refine lv_iload hx hb dX5_nextToCool_61 (lv_at hl 1 rfl) ?_
          refine lv_istore_n (lv' := [(2, .int (((rv i) 4) - ((rv i) 2))), (1, .ref (a (3 + i))), (7, .int (((rv i) 4) - ((rv i) 2))), (6, .ref (a (3 + i))), (4, .int (nI 6)), (3, .ref (a 2)), (0, .ref (a 0)), (5, .int (nI i))]) hx hb dX5_nextToCool_63 rfl hl (by decide) rfl (fun ls hl => ?_)
          refine lv_iinc (v := (nI (i + 1))) (lv' := [(5, .int (nI (i + 1))), (2, .int (((rv i) 4) - ((rv i) 2))), (1, .ref (a (3 + i))), (7, .int (((rv i) 4) - ((rv i) 2))), (6, .ref (a (3 + i))), (4, .int (nI 6)), (3, .ref (a 2)), (0, .ref (a 0))]) hx hb dX5_nextToCool_64 hl (k := 7) rfl (nI_add i 1) (by decide) rfl (fun ls hl => ?_)
          refine lv_goto (tgt := 16) hx hb dX5_nextToCool_67 (by decide) ?_
          exact ih (i + 1) (some i) (((rv i) 4) - ((rv i) 2)) (by omega) (by first | exact hw | (intro k h; cases h; exact hi)) eS _ _ ls hP hD hS (lv_sub hl [5, 6, 7, 0, 2, 1] rfl)
  exact L_2 6 0 none 0 rfl (fun k h => by cases h) eS _ _ ls hP hD hS (lv_sub hl [1, 2, 5, 0, 4, 3] rfl)
def lp_X5_nextToDefrost_24 (g : Nat → Int32) (u : Nat → Int32) (rv : Nat → Nat → Int32) : Nat → Nat → Option Nat → Int32 → Option Nat
  | 0, i, w, mx => (oe w none (fun k_1 => (some k_1)))
  | d + 1, i, w, mx => (if ((rv i) 9) = 7 then (if ((rv i) 6) ≤ mx then (lp_X5_nextToDefrost_24 g u rv d (i + 1) w mx) else (lp_X5_nextToDefrost_24 g u rv d (i + 1) (some i) ((rv i) 6))) else (lp_X5_nextToDefrost_24 g u rv d (i + 1) w mx))
def sX5_nextToDefrost (g : Nat → Int32) (u : Nat → Int32) (rv : Nat → Nat → Int32) : Option Nat :=
  (lp_X5_nextToDefrost_24 g u rv 6 0 none ((u 4) - 1))
set_option maxRecDepth 100000 in
set_option maxHeartbeats 4000000 in
theorem c_X5_nextToDefrost (l : Launch) (G : va_G) (kk : Nat → ClassId) (a : Nat → Nat) (g : Nat → Int32) (u : Nat → Int32) (rv : Nat → Nat → Int32)  : CC l yX5_nextToDefrost cX5_nextToDefrost 7 (some (.object "MeterRooms$Room")) (rmO 0 0) [.ref (a 0)] G kk (stW kk a g u rv) (QQ G kk (stW kk a g u rv) (Option.map (fun k => a (3 + k)) (sX5_nextToDefrost g u rv))) := by
  refine cc_start (by decide +kernel) (Nat.le_of_ble_eq_true rfl) ?_
  intro p e s m below meth c A ls hx hb hr hml hown hts hlocks hA hE hK hP hD hS hl
  have hown : s.vm.findClass RX5 = some m.cls := hown
  have hl : lv_has ls 7 [(0, .ref (a 0))] := hl
  have eS : sX5_nextToDefrost g u rv = sX5_nextToDefrost g u rv := rfl
  refine lv_null hx hb dX5_nextToDefrost_0 ?_
  refine lv_astore_nN (lv' := [(1, .null), (0, .ref (a 0))]) hx hb dX5_nextToDefrost_1 rfl hl (by decide) rfl (fun ls hl => ?_)
  refine lv_aload_n hx hb dX5_nextToDefrost_2 rfl (lv_at hl 1 rfl) ?_
  refine r_get (v := .ref (a 1)) hx hb hts hown hK hP fl_X5_12 0 rfl rfl dX5_nextToDefrost_3 ?_
  refine r_getN (v := .int (u 4)) hE hx hb hts hown hK hP fn_X5_207 1 rfl rfl dX5_nextToDefrost_6 ?_
  refine lv_iconst (v := 1) hx hb dX5_nextToDefrost_9 (by decide) ?_
  refine lv_isub hx hb dX5_nextToDefrost_10 ?_
  refine lv_istore_n (lv' := [(2, .int ((u 4) - 1)), (1, .null), (0, .ref (a 0))]) hx hb dX5_nextToDefrost_11 rfl hl (by decide) rfl (fun ls hl => ?_)
  refine lv_aload_n hx hb dX5_nextToDefrost_12 rfl (lv_at hl 2 rfl) ?_
  refine r_get (v := .ref (a 2)) hx hb hts hown hK hP fl_X5_20 0 rfl rfl dX5_nextToDefrost_13 ?_
  refine lv_astore_n (lv' := [(3, .ref (a 2)), (2, .int ((u 4) - 1)), (1, .null), (0, .ref (a 0))]) hx hb dX5_nextToDefrost_16 rfl hl (by decide) rfl (fun ls hl => ?_)
  refine lv_aload_n hx hb dX5_nextToDefrost_17 rfl (lv_at hl 0 rfl) ?_
  refine r_alen (t0 := 3) hx hb hK hP 2 rfl rfl dX5_nextToDefrost_18 ?_
  refine lv_istore (lv' := [(4, .int (nI 6)), (3, .ref (a 2)), (2, .int ((u 4) - 1)), (1, .null), (0, .ref (a 0))]) hx hb dX5_nextToDefrost_19 hl (by decide) rfl (fun ls hl => ?_)
  refine lv_iconst (v := 0) hx hb dX5_nextToDefrost_21 (by decide) ?_
  refine lv_istore (lv' := [(5, .int 0), (4, .int (nI 6)), (3, .ref (a 2)), (2, .int ((u 4) - 1)), (1, .null), (0, .ref (a 0))]) hx hb dX5_nextToDefrost_22 hl (by decide) rfl (fun ls hl => ?_)
  have L_2 : ∀ (d : Nat) (i : Nat) (w : Option Nat) (mx : Int32) (hd : i + d = 6) (hw : ∀ k, w = some k → k < 6) (eS : sX5_nextToDefrost g u rv = lp_X5_nextToDefrost_24 g u rv d i w mx) (H : Heap) (locs : List Loc) (ls : Array Slot) (hP : va_P G vwCl (stW kk a g u rv) H) (hD : va_D A (stW kk a g u rv)) (hS : va_S A s.heap H locs) (hl : lv_has ls 7 [(4, .int (nI 6)), (3, .ref (a 2)), (0, .ref (a 0)), (5, .int (nI i)), (1, va_rf (Option.map (fun k => a (3 + k)) w)), (2, .int mx)]), GO p l e (rmO 0 0) s m ([.ref (a 0)] : List Value).toArray below meth c A (QQ G kk (stW kk a g u rv) (Option.map (fun k => a (3 + k)) (sX5_nextToDefrost g u rv))) H locs (F0 m 24 ls []) := by
    intro d
    induction d with
    | zero =>
      intro i w mx hd hw eS H locs ls hP hD hS hl
      refine lv_iload hx hb dX5_nextToDefrost_24 (lv_at hl 3 rfl) ?_
      refine lv_iload hx hb dX5_nextToDefrost_26 (lv_at hl 0 rfl) ?_
      refine lv_icmp_ge (tgt := 71) hx hb dX5_nextToDefrost_28 (by decide) (fun c_28 => ?_) (fun c_28 => absurd (nI_le (by omega) (by omega)) c_28)
      rcases opt_or w with rfl | ⟨k_1, rfl⟩
      · have hl : lv_has ls 7 [(4, .int (nI 6)), (3, .ref (a 2)), (0, .ref (a 0)), (5, .int (nI i)), (1, .null), (2, .int mx)] := hl
        have eS := eS.trans (oe_n rfl)
        refine lv_aload_nN hx hb dX5_nextToDefrost_71 rfl (lv_at hl 4 rfl) ?_
        exact fin_q (v := (Option.map (fun k => a (3 + k)) none)) hx hb hr hlocks hK hP hD hS (congrArg (fun z : Option Nat => (Option.map (fun k => a (3 + k)) z)) eS) dX5_nextToDefrost_72
      · have hl : lv_has ls 7 [(4, .int (nI 6)), (3, .ref (a 2)), (0, .ref (a 0)), (5, .int (nI i)), (1, .ref (a (3 + k_1))), (2, .int mx)] := hl
        have hk_1 := hw k_1 rfl
        have eS := eS.trans (oe_s rfl)
        refine lv_aload_n hx hb dX5_nextToDefrost_71 rfl (lv_at hl 4 rfl) ?_
        exact fin_q (v := (Option.map (fun k => a (3 + k)) (some k_1))) hx hb hr hlocks hK hP hD hS (congrArg (fun z : Option Nat => (Option.map (fun k => a (3 + k)) z)) eS) dX5_nextToDefrost_72
    | succ d ih =>
      intro i w mx hd hw eS H locs ls hP hD hS hl
      have hi : i < 6 := by omega
      refine lv_iload hx hb dX5_nextToDefrost_24 (lv_at hl 3 rfl) ?_
      refine lv_iload hx hb dX5_nextToDefrost_26 (lv_at hl 0 rfl) ?_
      refine lv_icmp_ge (tgt := 71) hx hb dX5_nextToDefrost_28 (by decide) (fun c_28 => absurd c_28 (nI_ge (by omega) (by decide))) (fun c_28 => ?_)
      refine lv_aload_n hx hb dX5_nextToDefrost_31 rfl (lv_at hl 1 rfl) ?_
      refine lv_iload hx hb dX5_nextToDefrost_32 (lv_at hl 3 rfl) ?_
      refine r_aald hx hb hK hP 2 3 rfl rfl i (a (3 + i)) rfl (by omega) (by decide) rfl dX5_nextToDefrost_34 ?_
      refine lv_astore (lv' := [(6, .ref (a (3 + i))), (4, .int (nI 6)), (3, .ref (a 2)), (0, .ref (a 0)), (5, .int (nI i)), (1, va_rf (Option.map (fun k => a (3 + k)) w)), (2, .int mx)]) hx hb dX5_nextToDefrost_35 hl (by decide) rfl (fun ls hl => ?_)
      refine lv_aload hx hb dX5_nextToDefrost_37 (lv_at hl 0 rfl) ?_
      refine r_getN (v := .int ((rv i) 9)) hE hx hb hts hown hK hP fn_X5_141 (3 + i) (st_at hi) rfl dX5_nextToDefrost_39 ?_
      refine lv_bipush (v := 7) hx hb dX5_nextToDefrost_42 (by decide) ?_
      refine lv_icmp_ne (tgt := 65) hx hb dX5_nextToDefrost_44 (by decide) (fun c_44 => ?_) (fun c_44 => ?_)
      · have eS := eS.trans (if_neg c_44)
        refine lv_iinc (v := (nI (i + 1))) (lv' := [(5, .int (nI (i + 1))), (6, .ref (a (3 + i))), (4, .int (nI 6)), (3, .ref (a 2)), (0, .ref (a 0)), (1, va_rf (Option.map (fun k => a (3 + k)) w)), (2, .int mx)]) hx hb dX5_nextToDefrost_65 hl (k := 4) rfl (nI_add i 1) (by decide) rfl (fun ls hl => ?_)
        refine lv_goto (tgt := 24) hx hb dX5_nextToDefrost_68 (by decide) ?_
        exact ih (i + 1) w mx (by omega) (by first | exact hw | (intro k h; cases h; exact hi)) eS _ _ ls hP hD hS (lv_sub hl [2, 3, 4, 0, 5, 6] rfl)
      · have eS := eS.trans (if_pos c_44)
        refine lv_aload hx hb dX5_nextToDefrost_47 (lv_at hl 0 rfl) ?_
        refine r_getN (v := .int ((rv i) 6)) hE hx hb hts hown hK hP fn_X5_210 (3 + i) (st_at hi) rfl dX5_nextToDefrost_49 ?_
        refine lv_iload_n hx hb dX5_nextToDefrost_52 rfl (lv_at hl 6 rfl) ?_
        refine lv_icmp_le (tgt := 65) hx hb dX5_nextToDefrost_53 (by decide) (fun c_53 => ?_) (fun c_53 => ?_)
        · have eS := eS.trans (if_pos c_53)
          refine lv_iinc (v := (nI (i + 1))) (lv' := [(5, .int (nI (i + 1))), (6, .ref (a (3 + i))), (4, .int (nI 6)), (3, .ref (a 2)), (0, .ref (a 0)), (1, va_rf (Option.map (fun k => a (3 + k)) w)), (2, .int mx)]) hx hb dX5_nextToDefrost_65 hl (k := 4) rfl (nI_add i 1) (by decide) rfl (fun ls hl => ?_)
          refine lv_goto (tgt := 24) hx hb dX5_nextToDefrost_68 (by decide) ?_
          exact ih (i + 1) w mx (by omega) (by first | exact hw | (intro k h; cases h; exact hi)) eS _ _ ls hP hD hS (lv_sub hl [2, 3, 4, 0, 5, 6] rfl)
        · have eS := eS.trans (if_neg c_53)
          refine lv_aload hx hb dX5_nextToDefrost_56 (lv_at hl 0 rfl) ?_
          refine lv_astore_n (lv' := [(1, .ref (a (3 + i))), (6, .ref (a (3 + i))), (4, .int (nI 6)), (3, .ref (a 2)), (0, .ref (a 0)), (5, .int (nI i)), (2, .int mx)]) hx hb dX5_nextToDefrost_58 rfl hl (by decide) rfl (fun ls hl => ?_)
          refine lv_aload hx hb dX5_nextToDefrost_59 (lv_at hl 1 rfl) ?_
          refine r_getN (v := .int ((rv i) 6)) hE hx hb hts hown hK hP fn_X5_210 (3 + i) (st_at hi) rfl dX5_nextToDefrost_61 ?_
          refine lv_istore_n (lv' := [(2, .int ((rv i) 6)), (1, .ref (a (3 + i))), (6, .ref (a (3 + i))), (4, .int (nI 6)), (3, .ref (a 2)), (0, .ref (a 0)), (5, .int (nI i))]) hx hb dX5_nextToDefrost_64 rfl hl (by decide) rfl (fun ls hl => ?_)
          refine lv_iinc (v := (nI (i + 1))) (lv' := [(5, .int (nI (i + 1))), (2, .int ((rv i) 6)), (1, .ref (a (3 + i))), (6, .ref (a (3 + i))), (4, .int (nI 6)), (3, .ref (a 2)), (0, .ref (a 0))]) hx hb dX5_nextToDefrost_65 hl (k := 6) rfl (nI_add i 1) (by decide) rfl (fun ls hl => ?_)
          refine lv_goto (tgt := 24) hx hb dX5_nextToDefrost_68 (by decide) ?_
          exact ih (i + 1) (some i) ((rv i) 6) (by omega) (by first | exact hw | (intro k h; cases h; exact hi)) eS _ _ ls hP hD hS (lv_sub hl [4, 5, 6, 0, 2, 1] rfl)
  exact L_2 6 0 none ((u 4) - 1) rfl (fun k h => by cases h) eS _ _ ls hP hD hS (lv_sub hl [1, 2, 5, 0, 4, 3] rfl)
theorem nextToCool_lt0 {g u : Nat → Int32} {rv : Nat → Nat → Int32} : ∀ (d i : Nat) (w : Option Nat) (mx : Int32) (k : Nat), i + d = 6 → (∀ k, w = some k → k < 6) → lp_X5_nextToCool_16 g u rv d i w mx = some k → k < 6
  | 0, i, w, mx, k, _, hw, h => by
    cases w with
    | none => cases h
    | some j => cases h; exact hw k rfl
  | d + 1, i, w, mx, k, hd, hw, h => by
    unfold lp_X5_nextToCool_16 at h
    repeat' split at h
    all_goals first
      | exact nextToCool_lt0 d (i + 1) w _ k (by omega) hw h
      | exact nextToCool_lt0 d (i + 1) _ _ k (by omega) (fun k2 h2 => by cases h2; omega) h
theorem nextToCool_lt {g u : Nat → Int32} {rv : Nat → Nat → Int32} {k : Nat} (h : sX5_nextToCool g u rv = some k) : k < 6 := nextToCool_lt0 6 0 none 0 k rfl (fun _ h => by cases h) h
theorem nextToDefrost_lt0 {g u : Nat → Int32} {rv : Nat → Nat → Int32} : ∀ (d i : Nat) (w : Option Nat) (mx : Int32) (k : Nat), i + d = 6 → (∀ k, w = some k → k < 6) → lp_X5_nextToDefrost_24 g u rv d i w mx = some k → k < 6
  | 0, i, w, mx, k, _, hw, h => by
    cases w with
    | none => cases h
    | some j => cases h; exact hw k rfl
  | d + 1, i, w, mx, k, hd, hw, h => by
    unfold lp_X5_nextToDefrost_24 at h
    repeat' split at h
    all_goals first
      | exact nextToDefrost_lt0 d (i + 1) w _ k (by omega) hw h
      | exact nextToDefrost_lt0 d (i + 1) _ _ k (by omega) (fun k2 h2 => by cases h2; omega) h
theorem nextToDefrost_lt {g u : Nat → Int32} {rv : Nat → Nat → Int32} {k : Nat} (h : sX5_nextToDefrost g u rv = some k) : k < 6 := nextToDefrost_lt0 6 0 none (u 4 - 1) k rfl (fun _ h => by cases h) h
theorem canPass_e {n : Int32} (h : ¬ sX5_canPass n = 0) : n = nI n.toNatClampNeg := by
  unfold sX5_canPass at h
  by_cases h1 : n < 1
  · rw [if_pos h1] at h; exact absurd rfl h
  · exact pos_e (Int32.not_lt.mp h1)
def lp_X5_planMusts_13 (g : Nat → Int32) (u : Nat → Int32) (rv : Nat → Nat → Int32) : Nat → Nat → Int32 → (Nat → Nat → Int32) → Int32 × (Nat → Nat → Int32)
  | 0, i, t, rv1 => (t, rv1)
  | d + 1, i, t, rv1 => ((fun (x_1 : Int32) => (lp_X5_planMusts_13 g u rv d (i + 1) x_1 (updR rv1 i (upd (rv1 i) 9 (sX2_planMust (rv1 i)))))) (if (sX2_isHeated (upd (rv1 i) 9 (sX2_planMust (rv1 i)))) = 0 then (if (sX2_isCooled (upd (rv1 i) 9 (sX2_planMust (rv1 i)))) = 0 then t else (t + ((rv1 i) 1))) else (t + (u 3))))
def sX5_planMusts (g : Nat → Int32) (u : Nat → Int32) (rv : Nat → Nat → Int32) : Int32 × (Nat → Nat → Int32) :=
  (lp_X5_planMusts_13 g u rv 6 0 0 rv)
set_option maxRecDepth 100000 in
set_option maxHeartbeats 4000000 in
theorem c_X5_planMusts (l : Launch) (G : va_G) (kk : Nat → ClassId) (a : Nat → Nat) (g : Nat → Int32) (u : Nat → Int32) (rv : Nat → Nat → Int32)  : CC l yX5_planMusts cX5_planMusts 6 (some .int) (rmO 1 20) [.ref (a 0)] G kk (stW kk a g u rv) (QI G kk (stW kk a g u ((sX5_planMusts g u rv).2)) ((sX5_planMusts g u rv).1)) := by
  refine cc_start (by decide +kernel) (Nat.le_of_ble_eq_true rfl) ?_
  intro p e s m below meth c A ls hx hb hr hml hown hts hlocks hA hE hK hP hD hS hl
  have hown : s.vm.findClass RX5 = some m.cls := hown
  have hl : lv_has ls 6 [(0, .ref (a 0))] := hl
  have eS : sX5_planMusts g u rv = sX5_planMusts g u rv := rfl
  refine lv_iconst (v := 0) hx hb dX5_planMusts_0 (by decide) ?_
  refine lv_istore_n (lv' := [(1, .int 0), (0, .ref (a 0))]) hx hb dX5_planMusts_1 rfl hl (by decide) rfl (fun ls hl => ?_)
  refine lv_aload_n hx hb dX5_planMusts_2 rfl (lv_at hl 1 rfl) ?_
  refine r_get (v := .ref (a 2)) hx hb hts hown hK hP fl_X5_20 0 rfl rfl dX5_planMusts_3 ?_
  refine lv_astore_n (lv' := [(2, .ref (a 2)), (1, .int 0), (0, .ref (a 0))]) hx hb dX5_planMusts_6 rfl hl (by decide) rfl (fun ls hl => ?_)
  refine lv_aload_n hx hb dX5_planMusts_7 rfl (lv_at hl 0 rfl) ?_
  refine r_alen (t0 := 3) hx hb hK hP 2 rfl rfl dX5_planMusts_8 ?_
  refine lv_istore_n (lv' := [(3, .int (nI 6)), (2, .ref (a 2)), (1, .int 0), (0, .ref (a 0))]) hx hb dX5_planMusts_9 rfl hl (by decide) rfl (fun ls hl => ?_)
  refine lv_iconst (v := 0) hx hb dX5_planMusts_10 (by decide) ?_
  refine lv_istore (lv' := [(4, .int 0), (3, .int (nI 6)), (2, .ref (a 2)), (1, .int 0), (0, .ref (a 0))]) hx hb dX5_planMusts_11 hl (by decide) rfl (fun ls hl => ?_)
  have L_2 : ∀ (d : Nat) (i : Nat) (t : Int32) (rv1 : Nat → Nat → Int32) (hd : i + d = 6) (eS : sX5_planMusts g u rv = lp_X5_planMusts_13 g u rv d i t rv1) (H : Heap) (locs : List Loc) (ls : Array Slot) (hP : va_P G vwCl (stW kk a g u rv1) H) (hD : va_D A (stW kk a g u rv1)) (hS : va_S A s.heap H locs) (hl : lv_has ls 6 [(3, .int (nI 6)), (2, .ref (a 2)), (0, .ref (a 0)), (4, .int (nI i)), (1, .int t)]), GO p l e (rmO 1 20) s m ([.ref (a 0)] : List Value).toArray below meth c A (QI G kk (stW kk a g u ((sX5_planMusts g u rv).2)) ((sX5_planMusts g u rv).1)) H locs (F0 m 13 ls []) := by
    intro d
    induction d with
    | zero =>
      intro i t rv1 hd eS H locs ls hP hD hS hl
      refine lv_iload hx hb dX5_planMusts_13 (lv_at hl 3 rfl) ?_
      refine lv_iload_n hx hb dX5_planMusts_15 rfl (lv_at hl 0 rfl) ?_
      refine lv_icmp_ge (tgt := 78) hx hb dX5_planMusts_16 (by decide) (fun c_16 => ?_) (fun c_16 => absurd (nI_le (by omega) (by omega)) c_16)
      refine lv_iload_n hx hb dX5_planMusts_78 rfl (lv_at hl 4 rfl) ?_
      exact fin_i hx hb hr hlocks hK (vP_eq (congrArg (fun z : Int32 × (Nat → Nat → Int32) => (stW kk a g u z.2 : va_W)) eS.symm) hP) (vD_eq (congrArg (fun z : Int32 × (Nat → Nat → Int32) => (stW kk a g u z.2 : va_W)) eS.symm) hD) hS (congrArg (fun z : Int32 × (Nat → Nat → Int32) => z.1) eS) dX5_planMusts_79
    | succ d ih =>
      intro i t rv1 hd eS H locs ls hP hD hS hl
      have hi : i < 6 := by omega
      refine lv_iload hx hb dX5_planMusts_13 (lv_at hl 3 rfl) ?_
      refine lv_iload_n hx hb dX5_planMusts_15 rfl (lv_at hl 0 rfl) ?_
      refine lv_icmp_ge (tgt := 78) hx hb dX5_planMusts_16 (by decide) (fun c_16 => absurd c_16 (nI_ge (by omega) (by decide))) (fun c_16 => ?_)
      refine lv_aload_n hx hb dX5_planMusts_19 rfl (lv_at hl 1 rfl) ?_
      refine lv_iload hx hb dX5_planMusts_20 (lv_at hl 3 rfl) ?_
      refine r_aald hx hb hK hP 2 3 rfl rfl i (a (3 + i)) rfl (by omega) (by decide) rfl dX5_planMusts_22 ?_
      refine lv_astore (lv' := [(5, .ref (a (3 + i))), (3, .int (nI 6)), (2, .ref (a 2)), (0, .ref (a 0)), (4, .int (nI i)), (1, .int t)]) hx hb dX5_planMusts_23 hl (by decide) rfl (fun ls hl => ?_)
      refine lv_aload hx hb dX5_planMusts_25 (lv_at hl 0 rfl) ?_
      refine lv_aload hx hb dX5_planMusts_27 (lv_at hl 0 rfl) ?_
      refine k_goI (k_runV (rest := [.ref (a (3 + i))]) (As := []) hx hb hml hown hts hK hP hD hS hA hE hl.1 (c_X2_planMust l G kk (a (3 + i)) (rv1 i) ) vl_X5_186 rfl rfl rfl ⟨Nat.le_of_ble_eq_true rfl, Nat.le_of_ble_eq_true rfl, rfl, rfl⟩ [3 + i] (nd1 _) (map1 (st_at hi)) ⟨Nat.zero_le _, Nat.zero_le _⟩ rfl (Nat.le_of_ble_eq_true rfl) dX5_planMusts_29) hP hD hS hA [3 + i] (map1 (st_at hi)) ads1 (fun H locs hP hD hS => ?_)
      replace hP : va_P G vwCl (stW kk a g u rv1) H := vP_eq (st_same (g := g) (u := u) hi) hP
      replace hD : va_D A (stW kk a g u rv1) := vD_eq (st_same (g := g) (u := u) hi) hD
      refine r_putN hE hx hb hts hown hK hP hD hS fn_X5_141 fw_2_9 (3 + i) (st_at hi) rfl rfl (Nat.le_of_ble_eq_true rfl) dX5_planMusts_32 (fun H locs hP hD hS => ?_)
      replace hP : va_P G vwCl (stW kk a g u (updR rv1 i (upd (rv1 i) 9 (sX2_planMust (rv1 i))))) H := vP_eq (st_put hi (upd (rv1 i) 9 (sX2_planMust (rv1 i))) rfl) hP
      replace hD : va_D A (stW kk a g u (updR rv1 i (upd (rv1 i) 9 (sX2_planMust (rv1 i))))) := vD_eq (st_put hi (upd (rv1 i) 9 (sX2_planMust (rv1 i))) rfl) hD
      refine lv_aload hx hb dX5_planMusts_35 (lv_at hl 0 rfl) ?_
      refine k_goI (k_runV (rest := []) (As := []) hx hb hml hown hts hK hP hD hS hA hE hl.1 (c_X2_isHeated l G kk (a (3 + i)) (upd (rv1 i) 9 (sX2_planMust (rv1 i))) ) vl_X5_189 rfl rfl rfl ⟨Nat.le_of_ble_eq_true rfl, Nat.le_of_ble_eq_true rfl, rfl, rfl⟩ [3 + i] (nd1 _) (map1 (st_atU hi)) ⟨Nat.zero_le _, Nat.zero_le _⟩ rfl (Nat.le_of_ble_eq_true rfl) dX5_planMusts_37) hP hD hS hA [3 + i] (map1 (st_atU hi)) ads1 (fun H locs hP hD hS => ?_)
      replace hP : va_P G vwCl (stW kk a g u (updR rv1 i (upd (rv1 i) 9 (sX2_planMust (rv1 i))))) H := vP_eq (st_putU (g := g) (u := u) hi (upd (rv1 i) 9 (sX2_planMust (rv1 i))) rfl) hP
      replace hD : va_D A (stW kk a g u (updR rv1 i (upd (rv1 i) 9 (sX2_planMust (rv1 i))))) := vD_eq (st_putU (g := g) (u := u) hi (upd (rv1 i) 9 (sX2_planMust (rv1 i))) rfl) hD
      have J_3 : ∀ (x_1 : Int32) (ex_1 : x_1 = (if (sX2_isHeated (upd (rv1 i) 9 (sX2_planMust (rv1 i)))) = 0 then (if (sX2_isCooled (upd (rv1 i) 9 (sX2_planMust (rv1 i)))) = 0 then t else (t + ((rv1 i) 1))) else (t + (u 3)))) (eS : sX5_planMusts g u rv = (fun (x_1 : Int32) => (lp_X5_planMusts_13 g u rv d (i + 1) x_1 (updR rv1 i (upd (rv1 i) 9 (sX2_planMust (rv1 i)))))) x_1) (H : Heap) (locs : List Loc) (ls : Array Slot) (hP : va_P G vwCl (stW kk a g u (updR rv1 i (upd (rv1 i) 9 (sX2_planMust (rv1 i))))) H) (hD : va_D A (stW kk a g u (updR rv1 i (upd (rv1 i) 9 (sX2_planMust (rv1 i)))))) (hS : va_S A s.heap H locs) (hl : lv_has ls 6 [(5, .ref (a (3 + i))), (3, .int (nI 6)), (2, .ref (a 2)), (0, .ref (a 0)), (4, .int (nI i)), (1, .int x_1)]), GO p l e (rmO 1 20) s m ([.ref (a 0)] : List Value).toArray below meth c A (QI G kk (stW kk a g u ((sX5_planMusts g u rv).2)) ((sX5_planMusts g u rv).1)) H locs (F0 m 72 ls []) := by
        intro x_1 ex_1 eS H locs ls hP hD hS hl
        refine lv_iinc (v := (nI (i + 1))) (lv' := [(4, .int (nI (i + 1))), (5, .ref (a (3 + i))), (3, .int (nI 6)), (2, .ref (a 2)), (0, .ref (a 0)), (1, .int x_1)]) hx hb dX5_planMusts_72 hl (k := 4) rfl (nI_add i 1) (by decide) rfl (fun ls hl => ?_)
        refine lv_goto (tgt := 13) hx hb dX5_planMusts_75 (by decide) ?_
        exact ih (i + 1) x_1 (updR rv1 i (upd (rv1 i) 9 (sX2_planMust (rv1 i)))) (by omega) eS _ _ ls hP hD hS (lv_sub hl [2, 3, 4, 0, 5] rfl)
      refine lv_if_eq (tgt := 56) hx hb dX5_planMusts_40 (by decide) (fun c_40 => ?_) (fun c_40 => ?_)
      · refine lv_aload hx hb dX5_planMusts_56 (lv_at hl 0 rfl) ?_
        refine k_goI (k_runV (rest := []) (As := []) hx hb hml hown hts hK hP hD hS hA hE hl.1 (c_X2_isCooled l G kk (a (3 + i)) (upd (rv1 i) 9 (sX2_planMust (rv1 i))) ) vl_X5_153 rfl rfl rfl ⟨Nat.le_of_ble_eq_true rfl, Nat.le_of_ble_eq_true rfl, rfl, rfl⟩ [3 + i] (nd1 _) (map1 (st_atU hi)) ⟨Nat.zero_le _, Nat.zero_le _⟩ rfl (Nat.le_of_ble_eq_true rfl) dX5_planMusts_58) hP hD hS hA [3 + i] (map1 (st_atU hi)) ads1 (fun H locs hP hD hS => ?_)
        replace hP : va_P G vwCl (stW kk a g u (updR rv1 i (upd (rv1 i) 9 (sX2_planMust (rv1 i))))) H := vP_eq (st_putU (g := g) (u := u) hi (upd (rv1 i) 9 (sX2_planMust (rv1 i))) rfl) hP
        replace hD : va_D A (stW kk a g u (updR rv1 i (upd (rv1 i) 9 (sX2_planMust (rv1 i))))) := vD_eq (st_putU (g := g) (u := u) hi (upd (rv1 i) 9 (sX2_planMust (rv1 i))) rfl) hD
        refine lv_if_eq (tgt := 72) hx hb dX5_planMusts_61 (by decide) (fun c_61 => ?_) (fun c_61 => ?_)
        · exact J_3 t ((if_pos c_40).trans (if_pos c_61)).symm (eS.trans (cg1 ((fun (x_1 : Int32) => (lp_X5_planMusts_13 g u rv d (i + 1) x_1 (updR rv1 i (upd (rv1 i) 9 (sX2_planMust (rv1 i))))))) ((if_pos c_40).trans (if_pos c_61)))) _ _ ls hP hD hS (lv_sub hl [0, 1, 2, 3, 4, 5] rfl)
        · refine lv_iload_n hx hb dX5_planMusts_64 rfl (lv_at hl 5 rfl) ?_
          refine lv_aload hx hb dX5_planMusts_65 (lv_at hl 0 rfl) ?_
          refine r_getN (v := .int ((rv1 i) 1)) hE hx hb hts hown hK hP fn_X5_195 (3 + i) (st_atU hi) rfl dX5_planMusts_67 ?_
          refine lv_iadd hx hb dX5_planMusts_70 ?_
          refine lv_istore_n (lv' := [(1, .int (t + ((rv1 i) 1))), (5, .ref (a (3 + i))), (3, .int (nI 6)), (2, .ref (a 2)), (0, .ref (a 0)), (4, .int (nI i))]) hx hb dX5_planMusts_71 rfl hl (by decide) rfl (fun ls hl => ?_)
          exact J_3 (t + ((rv1 i) 1)) ((if_pos c_40).trans (if_neg c_61)).symm (eS.trans (cg1 ((fun (x_1 : Int32) => (lp_X5_planMusts_13 g u rv d (i + 1) x_1 (updR rv1 i (upd (rv1 i) 9 (sX2_planMust (rv1 i))))))) ((if_pos c_40).trans (if_neg c_61)))) _ _ ls hP hD hS (lv_sub hl [1, 2, 3, 4, 5, 0] rfl)
      · refine lv_iload_n hx hb dX5_planMusts_43 rfl (lv_at hl 5 rfl) ?_
        refine lv_aload_n hx hb dX5_planMusts_44 rfl (lv_at hl 3 rfl) ?_
        refine r_get (v := .ref (a 1)) hx hb hts hown hK hP fl_X5_12 0 rfl rfl dX5_planMusts_45 ?_
        refine r_getN (v := .int (u 3)) hE hx hb hts hown hK hP fn_X5_192 1 rfl rfl dX5_planMusts_48 ?_
        refine lv_iadd hx hb dX5_planMusts_51 ?_
        refine lv_istore_n (lv' := [(1, .int (t + (u 3))), (5, .ref (a (3 + i))), (3, .int (nI 6)), (2, .ref (a 2)), (0, .ref (a 0)), (4, .int (nI i))]) hx hb dX5_planMusts_52 rfl hl (by decide) rfl (fun ls hl => ?_)
        refine lv_goto (tgt := 72) hx hb dX5_planMusts_53 (by decide) ?_
        exact J_3 (t + (u 3)) (if_neg c_40).symm (eS.trans (cg1 ((fun (x_1 : Int32) => (lp_X5_planMusts_13 g u rv d (i + 1) x_1 (updR rv1 i (upd (rv1 i) 9 (sX2_planMust (rv1 i))))))) (if_neg c_40))) _ _ ls hP hD hS (lv_sub hl [1, 2, 3, 4, 5, 0] rfl)
  exact L_2 6 0 0 rv rfl eS _ _ ls hP hD hS (lv_sub hl [1, 2, 4, 0, 3] rfl)
def lp_X5_planCompressors_5 (g : Nat → Int32) (u : Nat → Int32) (rv : Nat → Nat → Int32) (t0 : Int32) (sp : Int32) : Nat → Nat → Int32 → (Nat → Nat → Int32) → Int32 × (Nat → Nat → Int32)
  | 0, i, t, rv1 => (t, rv1)
  | d + 1, i, t, rv1 => (oe (sX5_nextToCool g u rv1) (t, rv1) (fun k_2 => ((fun (x_3 : Int32) (x_4 : Int32) => (lp_X5_planCompressors_5 g u rv t0 sp d (i + 1) x_3 (updR rv1 k_2 (upd (rv1 k_2) 9 x_4)))) (if sp < (t + ((rv1 k_2) 1)) then t else (t + ((rv1 k_2) 1))) (if sp < (t + ((rv1 k_2) 1)) then 4 else 3))))
def sX5_planCompressors (g : Nat → Int32) (u : Nat → Int32) (rv : Nat → Nat → Int32) (t0 : Int32) (sp : Int32) : Int32 × (Nat → Nat → Int32) :=
  (lp_X5_planCompressors_5 g u rv t0 sp 6 0 t0 rv)
set_option maxRecDepth 100000 in
set_option maxHeartbeats 4000000 in
theorem c_X5_planCompressors (l : Launch) (G : va_G) (kk : Nat → ClassId) (a : Nat → Nat) (g : Nat → Int32) (u : Nat → Int32) (rv : Nat → Nat → Int32) (t0 : Int32) (sp : Int32)  : CC l yX5_planCompressors cX5_planCompressors 6 (some .int) (rmO 1 27) [.ref (a 0), .int t0, .int sp] G kk (stW kk a g u rv) (QI G kk (stW kk a g u ((sX5_planCompressors g u rv t0 sp).2)) ((sX5_planCompressors g u rv t0 sp).1)) := by
  refine cc_start (by decide +kernel) (Nat.le_of_ble_eq_true rfl) ?_
  intro p e s m below meth c A ls hx hb hr hml hown hts hlocks hA hE hK hP hD hS hl
  have hown : s.vm.findClass RX5 = some m.cls := hown
  have hl : lv_has ls 6 [(0, .ref (a 0)), (1, .int t0), (2, .int sp)] := hl
  have eS : sX5_planCompressors g u rv t0 sp = sX5_planCompressors g u rv t0 sp := rfl
  refine lv_iload_n hx hb dX5_planCompressors_0 rfl (lv_at hl 1 rfl) ?_
  refine lv_istore_n (lv' := [(3, .int t0), (0, .ref (a 0)), (1, .int t0), (2, .int sp)]) hx hb dX5_planCompressors_1 rfl hl (by decide) rfl (fun ls hl => ?_)
  refine lv_iconst (v := 0) hx hb dX5_planCompressors_2 (by decide) ?_
  refine lv_istore (lv' := [(4, .int 0), (3, .int t0), (0, .ref (a 0)), (1, .int t0), (2, .int sp)]) hx hb dX5_planCompressors_3 hl (by decide) rfl (fun ls hl => ?_)
  have L_5 : ∀ (d : Nat) (i : Nat) (t : Int32) (rv1 : Nat → Nat → Int32) (hd : i + d = 6) (eS : sX5_planCompressors g u rv t0 sp = lp_X5_planCompressors_5 g u rv t0 sp d i t rv1) (H : Heap) (locs : List Loc) (ls : Array Slot) (hP : va_P G vwCl (stW kk a g u rv1) H) (hD : va_D A (stW kk a g u rv1)) (hS : va_S A s.heap H locs) (hl : lv_has ls 6 [(0, .ref (a 0)), (2, .int sp), (4, .int (nI i)), (3, .int t)]), GO p l e (rmO 1 27) s m ([.ref (a 0), .int t0, .int sp] : List Value).toArray below meth c A (QI G kk (stW kk a g u ((sX5_planCompressors g u rv t0 sp).2)) ((sX5_planCompressors g u rv t0 sp).1)) H locs (F0 m 5 ls []) := by
    intro d
    induction d with
    | zero =>
      intro i t rv1 hd eS H locs ls hP hD hS hl
      refine lv_iload hx hb dX5_planCompressors_5 (lv_at hl 2 rfl) ?_
      refine lv_bipush (v := 6) hx hb dX5_planCompressors_7 (by decide) ?_
      refine lv_icmp_ge (tgt := 66) hx hb dX5_planCompressors_9 (by decide) (fun c_9 => ?_) (fun c_9 => absurd (nI_le (a := 6) (b := i) (by omega) (by omega)) c_9)
      refine lv_iload_n hx hb dX5_planCompressors_66 rfl (lv_at hl 3 rfl) ?_
      exact fin_i hx hb hr hlocks hK (vP_eq (congrArg (fun z : Int32 × (Nat → Nat → Int32) => (stW kk a g u z.2 : va_W)) eS.symm) hP) (vD_eq (congrArg (fun z : Int32 × (Nat → Nat → Int32) => (stW kk a g u z.2 : va_W)) eS.symm) hD) hS (congrArg (fun z : Int32 × (Nat → Nat → Int32) => z.1) eS) dX5_planCompressors_67
    | succ d ih =>
      intro i t rv1 hd eS H locs ls hP hD hS hl
      refine lv_iload hx hb dX5_planCompressors_5 (lv_at hl 2 rfl) ?_
      refine lv_bipush (v := 6) hx hb dX5_planCompressors_7 (by decide) ?_
      refine lv_icmp_ge (tgt := 66) hx hb dX5_planCompressors_9 (by decide) (fun c_9 => absurd c_9 (nI_ge (a := i) (b := 6) (by omega) (by decide))) (fun c_9 => ?_)
      refine lv_aload_n hx hb dX5_planCompressors_12 rfl (lv_at hl 0 rfl) ?_
      refine k_goQ (k_runV (rest := []) (As := []) hx hb hml hown hts hK hP hD hS hA hE hl.1 (c_X5_nextToCool l G kk a g u rv1 ) vl_X5_198 rfl rfl rfl ⟨Nat.le_of_ble_eq_true rfl, Nat.le_of_ble_eq_true rfl, rfl, rfl⟩ [0, 1, 2, 3, 4, 5, 6, 7, 8] rfl st_mapC ⟨Nat.zero_le _, Nat.zero_le _⟩ rfl (Nat.le_of_ble_eq_true rfl) dX5_planCompressors_13) hP hD hS hA [0, 1, 2, 3, 4, 5, 6, 7, 8] st_mapC st_ads (fun H locs hP hD hS => ?_)
      replace hP : va_P G vwCl (stW kk a g u rv1) H := vP_eq (st_full) hP
      replace hD : va_D A (stW kk a g u rv1) := vD_eq (st_full) hD
      rcases opt_or ((sX5_nextToCool g u rv1)) with hq_1 | ⟨k_2, hq_1⟩
      · refine top_eqV (y := .null) (by rw [hq_1]; rfl) ?_
        have eS := eS.trans (oe_n hq_1)
        refine lv_astoreN (lv' := [(5, .null), (0, .ref (a 0)), (2, .int sp), (4, .int (nI i)), (3, .int t)]) hx hb dX5_planCompressors_16 hl (by decide) rfl (fun ls hl => ?_)
        refine lv_aloadN hx hb dX5_planCompressors_18 (lv_at hl 0 rfl) ?_
        refine lv_ifnonnullN hx hb dX5_planCompressors_20 ?_
        refine lv_goto (tgt := 66) hx hb dX5_planCompressors_23 (by decide) ?_
        refine lv_iload_n hx hb dX5_planCompressors_66 rfl (lv_at hl 4 rfl) ?_
        exact fin_i hx hb hr hlocks hK (vP_eq (congrArg (fun z : Int32 × (Nat → Nat → Int32) => (stW kk a g u z.2 : va_W)) eS.symm) hP) (vD_eq (congrArg (fun z : Int32 × (Nat → Nat → Int32) => (stW kk a g u z.2 : va_W)) eS.symm) hD) hS (congrArg (fun z : Int32 × (Nat → Nat → Int32) => z.1) eS) dX5_planCompressors_67
      · refine top_eqV (y := .ref (a (3 + k_2))) (by rw [hq_1]; rfl) ?_
        have hk_2 := nextToCool_lt hq_1
        have eS := eS.trans (oe_s hq_1)
        refine lv_astore (lv' := [(5, .ref (a (3 + k_2))), (0, .ref (a 0)), (2, .int sp), (4, .int (nI i)), (3, .int t)]) hx hb dX5_planCompressors_16 hl (by decide) rfl (fun ls hl => ?_)
        refine lv_aload hx hb dX5_planCompressors_18 (lv_at hl 0 rfl) ?_
        refine lv_ifnonnull (tgt := 26) hx hb dX5_planCompressors_20 (by decide) ?_
        refine lv_iload_n hx hb dX5_planCompressors_26 rfl (lv_at hl 4 rfl) ?_
        refine lv_aload hx hb dX5_planCompressors_27 (lv_at hl 0 rfl) ?_
        refine r_getN (v := .int ((rv1 k_2) 1)) hE hx hb hts hown hK hP fn_X5_195 (3 + k_2) (st_at hk_2) rfl dX5_planCompressors_29 ?_
        refine lv_iadd hx hb dX5_planCompressors_32 ?_
        refine lv_iload_n hx hb dX5_planCompressors_33 rfl (lv_at hl 2 rfl) ?_
        have J_6 : ∀ (x_3 : Int32) (ex_3 : x_3 = (if sp < (t + ((rv1 k_2) 1)) then t else (t + ((rv1 k_2) 1)))) (x_4 : Int32) (ex_4 : x_4 = (if sp < (t + ((rv1 k_2) 1)) then 4 else 3)) (eS : sX5_planCompressors g u rv t0 sp = (fun (x_3 : Int32) (x_4 : Int32) => (lp_X5_planCompressors_5 g u rv t0 sp d (i + 1) x_3 (updR rv1 k_2 (upd (rv1 k_2) 9 x_4)))) x_3 x_4) (H : Heap) (locs : List Loc) (ls : Array Slot) (hP : va_P G vwCl (stW kk a g u (updR rv1 k_2 (upd (rv1 k_2) 9 x_4))) H) (hD : va_D A (stW kk a g u (updR rv1 k_2 (upd (rv1 k_2) 9 x_4)))) (hS : va_S A s.heap H locs) (hl : lv_has ls 6 [(5, .ref (a (3 + k_2))), (0, .ref (a 0)), (2, .int sp), (4, .int (nI i)), (3, .int x_3)]), GO p l e (rmO 1 27) s m ([.ref (a 0), .int t0, .int sp] : List Value).toArray below meth c A (QI G kk (stW kk a g u ((sX5_planCompressors g u rv t0 sp).2)) ((sX5_planCompressors g u rv t0 sp).1)) H locs (F0 m 60 ls []) := by
          intro x_3 ex_3 x_4 ex_4 eS H locs ls hP hD hS hl
          refine lv_iinc (v := (nI (i + 1))) (lv' := [(4, .int (nI (i + 1))), (5, .ref (a (3 + k_2))), (0, .ref (a 0)), (2, .int sp), (3, .int x_3)]) hx hb dX5_planCompressors_60 hl (k := 3) rfl (nI_add i 1) (by decide) rfl (fun ls hl => ?_)
          refine lv_goto (tgt := 5) hx hb dX5_planCompressors_63 (by decide) ?_
          exact ih (i + 1) x_3 (updR rv1 k_2 (upd (rv1 k_2) 9 x_4)) (by omega) eS _ _ ls hP hD hS (lv_sub hl [2, 3, 0, 4] rfl)
        refine lv_icmp_gt (tgt := 54) hx hb dX5_planCompressors_34 (by decide) (fun c_34 => ?_) (fun c_34 => ?_)
        · refine lv_aload hx hb dX5_planCompressors_54 (lv_at hl 0 rfl) ?_
          refine lv_iconst (v := 4) hx hb dX5_planCompressors_56 (by decide) ?_
          refine r_putN hE hx hb hts hown hK hP hD hS fn_X5_141 fw_2_9 (3 + k_2) (st_at hk_2) rfl rfl (Nat.le_of_ble_eq_true rfl) dX5_planCompressors_57 (fun H locs hP hD hS => ?_)
          replace hP : va_P G vwCl (stW kk a g u (updR rv1 k_2 (upd (rv1 k_2) 9 4))) H := vP_eq (st_put hk_2 (upd (rv1 k_2) 9 4) rfl) hP
          replace hD : va_D A (stW kk a g u (updR rv1 k_2 (upd (rv1 k_2) 9 4))) := vD_eq (st_put hk_2 (upd (rv1 k_2) 9 4) rfl) hD
          exact J_6 t (if_pos c_34).symm 4 (if_pos c_34).symm (eS.trans (cg2 ((fun (x_3 : Int32) (x_4 : Int32) => (lp_X5_planCompressors_5 g u rv t0 sp d (i + 1) x_3 (updR rv1 k_2 (upd (rv1 k_2) 9 x_4))))) (if_pos c_34) (if_pos c_34))) _ _ ls hP hD hS (lv_sub hl [0, 1, 2, 3, 4] rfl)
        · refine lv_aload hx hb dX5_planCompressors_37 (lv_at hl 0 rfl) ?_
          refine lv_iconst (v := 3) hx hb dX5_planCompressors_39 (by decide) ?_
          refine r_putN hE hx hb hts hown hK hP hD hS fn_X5_141 fw_2_9 (3 + k_2) (st_at hk_2) rfl rfl (Nat.le_of_ble_eq_true rfl) dX5_planCompressors_40 (fun H locs hP hD hS => ?_)
          replace hP : va_P G vwCl (stW kk a g u (updR rv1 k_2 (upd (rv1 k_2) 9 3))) H := vP_eq (st_put hk_2 (upd (rv1 k_2) 9 3) rfl) hP
          replace hD : va_D A (stW kk a g u (updR rv1 k_2 (upd (rv1 k_2) 9 3))) := vD_eq (st_put hk_2 (upd (rv1 k_2) 9 3) rfl) hD
          refine lv_iload_n hx hb dX5_planCompressors_43 rfl (lv_at hl 4 rfl) ?_
          refine lv_aload hx hb dX5_planCompressors_44 (lv_at hl 0 rfl) ?_
          refine r_getN (v := .int ((rv1 k_2) 1)) hE hx hb hts hown hK hP fn_X5_195 (3 + k_2) (st_atU hk_2) rfl dX5_planCompressors_46 ?_
          refine lv_iadd hx hb dX5_planCompressors_49 ?_
          refine lv_istore_n (lv' := [(3, .int (t + ((rv1 k_2) 1))), (5, .ref (a (3 + k_2))), (0, .ref (a 0)), (2, .int sp), (4, .int (nI i))]) hx hb dX5_planCompressors_50 rfl hl (by decide) rfl (fun ls hl => ?_)
          refine lv_goto (tgt := 60) hx hb dX5_planCompressors_51 (by decide) ?_
          exact J_6 (t + ((rv1 k_2) 1)) (if_neg c_34).symm 3 (if_neg c_34).symm (eS.trans (cg2 ((fun (x_3 : Int32) (x_4 : Int32) => (lp_X5_planCompressors_5 g u rv t0 sp d (i + 1) x_3 (updR rv1 k_2 (upd (rv1 k_2) 9 x_4))))) (if_neg c_34) (if_neg c_34))) _ _ ls hP hD hS (lv_sub hl [1, 2, 3, 4, 0] rfl)
  exact L_5 6 0 t0 rv rfl eS _ _ ls hP hD hS (lv_sub hl [2, 4, 0, 1] rfl)
def lp_X5_planDefrosts_5 (g : Nat → Int32) (u : Nat → Int32) (rv : Nat → Nat → Int32) (t0 : Int32) (sp : Int32) : Nat → Nat → Int32 → (Nat → Nat → Int32) → Int32 × (Nat → Nat → Int32)
  | 0, i, t, rv1 => (t, rv1)
  | d + 1, i, t, rv1 => (oe (sX5_nextToDefrost g u rv1) (t, rv1) (fun k_2 => ((fun (x_3 : Int32) (x_4 : Int32) => (lp_X5_planDefrosts_5 g u rv t0 sp d (i + 1) x_3 (updR rv1 k_2 (upd (rv1 k_2) 9 x_4)))) (if sp < (t + (u 3)) then t else (t + (u 3))) (if sp < (t + (u 3)) then 6 else 5))))
def sX5_planDefrosts (g : Nat → Int32) (u : Nat → Int32) (rv : Nat → Nat → Int32) (t0 : Int32) (sp : Int32) : Int32 × (Nat → Nat → Int32) :=
  (lp_X5_planDefrosts_5 g u rv t0 sp 6 0 t0 rv)
set_option maxRecDepth 100000 in
set_option maxHeartbeats 4000000 in
theorem c_X5_planDefrosts (l : Launch) (G : va_G) (kk : Nat → ClassId) (a : Nat → Nat) (g : Nat → Int32) (u : Nat → Int32) (rv : Nat → Nat → Int32) (t0 : Int32) (sp : Int32)  : CC l yX5_planDefrosts cX5_planDefrosts 6 (some .int) (rmO 1 26) [.ref (a 0), .int t0, .int sp] G kk (stW kk a g u rv) (QI G kk (stW kk a g u ((sX5_planDefrosts g u rv t0 sp).2)) ((sX5_planDefrosts g u rv t0 sp).1)) := by
  refine cc_start (by decide +kernel) (Nat.le_of_ble_eq_true rfl) ?_
  intro p e s m below meth c A ls hx hb hr hml hown hts hlocks hA hE hK hP hD hS hl
  have hown : s.vm.findClass RX5 = some m.cls := hown
  have hl : lv_has ls 6 [(0, .ref (a 0)), (1, .int t0), (2, .int sp)] := hl
  have eS : sX5_planDefrosts g u rv t0 sp = sX5_planDefrosts g u rv t0 sp := rfl
  refine lv_iload_n hx hb dX5_planDefrosts_0 rfl (lv_at hl 1 rfl) ?_
  refine lv_istore_n (lv' := [(3, .int t0), (0, .ref (a 0)), (1, .int t0), (2, .int sp)]) hx hb dX5_planDefrosts_1 rfl hl (by decide) rfl (fun ls hl => ?_)
  refine lv_iconst (v := 0) hx hb dX5_planDefrosts_2 (by decide) ?_
  refine lv_istore (lv' := [(4, .int 0), (3, .int t0), (0, .ref (a 0)), (1, .int t0), (2, .int sp)]) hx hb dX5_planDefrosts_3 hl (by decide) rfl (fun ls hl => ?_)
  have L_5 : ∀ (d : Nat) (i : Nat) (t : Int32) (rv1 : Nat → Nat → Int32) (hd : i + d = 6) (eS : sX5_planDefrosts g u rv t0 sp = lp_X5_planDefrosts_5 g u rv t0 sp d i t rv1) (H : Heap) (locs : List Loc) (ls : Array Slot) (hP : va_P G vwCl (stW kk a g u rv1) H) (hD : va_D A (stW kk a g u rv1)) (hS : va_S A s.heap H locs) (hl : lv_has ls 6 [(0, .ref (a 0)), (2, .int sp), (4, .int (nI i)), (3, .int t)]), GO p l e (rmO 1 26) s m ([.ref (a 0), .int t0, .int sp] : List Value).toArray below meth c A (QI G kk (stW kk a g u ((sX5_planDefrosts g u rv t0 sp).2)) ((sX5_planDefrosts g u rv t0 sp).1)) H locs (F0 m 5 ls []) := by
    intro d
    induction d with
    | zero =>
      intro i t rv1 hd eS H locs ls hP hD hS hl
      refine lv_iload hx hb dX5_planDefrosts_5 (lv_at hl 2 rfl) ?_
      refine lv_bipush (v := 6) hx hb dX5_planDefrosts_7 (by decide) ?_
      refine lv_icmp_ge (tgt := 71) hx hb dX5_planDefrosts_9 (by decide) (fun c_9 => ?_) (fun c_9 => absurd (nI_le (a := 6) (b := i) (by omega) (by omega)) c_9)
      refine lv_iload_n hx hb dX5_planDefrosts_71 rfl (lv_at hl 3 rfl) ?_
      exact fin_i hx hb hr hlocks hK (vP_eq (congrArg (fun z : Int32 × (Nat → Nat → Int32) => (stW kk a g u z.2 : va_W)) eS.symm) hP) (vD_eq (congrArg (fun z : Int32 × (Nat → Nat → Int32) => (stW kk a g u z.2 : va_W)) eS.symm) hD) hS (congrArg (fun z : Int32 × (Nat → Nat → Int32) => z.1) eS) dX5_planDefrosts_72
    | succ d ih =>
      intro i t rv1 hd eS H locs ls hP hD hS hl
      refine lv_iload hx hb dX5_planDefrosts_5 (lv_at hl 2 rfl) ?_
      refine lv_bipush (v := 6) hx hb dX5_planDefrosts_7 (by decide) ?_
      refine lv_icmp_ge (tgt := 71) hx hb dX5_planDefrosts_9 (by decide) (fun c_9 => absurd c_9 (nI_ge (a := i) (b := 6) (by omega) (by decide))) (fun c_9 => ?_)
      refine lv_aload_n hx hb dX5_planDefrosts_12 rfl (lv_at hl 0 rfl) ?_
      refine k_goQ (k_runV (rest := []) (As := []) hx hb hml hown hts hK hP hD hS hA hE hl.1 (c_X5_nextToDefrost l G kk a g u rv1 ) vl_X5_201 rfl rfl rfl ⟨Nat.le_of_ble_eq_true rfl, Nat.le_of_ble_eq_true rfl, rfl, rfl⟩ [0, 1, 2, 3, 4, 5, 6, 7, 8] rfl st_mapC ⟨Nat.zero_le _, Nat.zero_le _⟩ rfl (Nat.le_of_ble_eq_true rfl) dX5_planDefrosts_13) hP hD hS hA [0, 1, 2, 3, 4, 5, 6, 7, 8] st_mapC st_ads (fun H locs hP hD hS => ?_)
      replace hP : va_P G vwCl (stW kk a g u rv1) H := vP_eq (st_full) hP
      replace hD : va_D A (stW kk a g u rv1) := vD_eq (st_full) hD
      rcases opt_or ((sX5_nextToDefrost g u rv1)) with hq_1 | ⟨k_2, hq_1⟩
      · refine top_eqV (y := .null) (by rw [hq_1]; rfl) ?_
        have eS := eS.trans (oe_n hq_1)
        refine lv_astoreN (lv' := [(5, .null), (0, .ref (a 0)), (2, .int sp), (4, .int (nI i)), (3, .int t)]) hx hb dX5_planDefrosts_16 hl (by decide) rfl (fun ls hl => ?_)
        refine lv_aloadN hx hb dX5_planDefrosts_18 (lv_at hl 0 rfl) ?_
        refine lv_ifnonnullN hx hb dX5_planDefrosts_20 ?_
        refine lv_goto (tgt := 71) hx hb dX5_planDefrosts_23 (by decide) ?_
        refine lv_iload_n hx hb dX5_planDefrosts_71 rfl (lv_at hl 4 rfl) ?_
        exact fin_i hx hb hr hlocks hK (vP_eq (congrArg (fun z : Int32 × (Nat → Nat → Int32) => (stW kk a g u z.2 : va_W)) eS.symm) hP) (vD_eq (congrArg (fun z : Int32 × (Nat → Nat → Int32) => (stW kk a g u z.2 : va_W)) eS.symm) hD) hS (congrArg (fun z : Int32 × (Nat → Nat → Int32) => z.1) eS) dX5_planDefrosts_72
      · refine top_eqV (y := .ref (a (3 + k_2))) (by rw [hq_1]; rfl) ?_
        have hk_2 := nextToDefrost_lt hq_1
        have eS := eS.trans (oe_s hq_1)
        refine lv_astore (lv' := [(5, .ref (a (3 + k_2))), (0, .ref (a 0)), (2, .int sp), (4, .int (nI i)), (3, .int t)]) hx hb dX5_planDefrosts_16 hl (by decide) rfl (fun ls hl => ?_)
        refine lv_aload hx hb dX5_planDefrosts_18 (lv_at hl 0 rfl) ?_
        refine lv_ifnonnull (tgt := 26) hx hb dX5_planDefrosts_20 (by decide) ?_
        refine lv_iload_n hx hb dX5_planDefrosts_26 rfl (lv_at hl 4 rfl) ?_
        refine lv_aload_n hx hb dX5_planDefrosts_27 rfl (lv_at hl 1 rfl) ?_
        refine r_get (v := .ref (a 1)) hx hb hts hown hK hP fl_X5_12 0 rfl rfl dX5_planDefrosts_28 ?_
        refine r_getN (v := .int (u 3)) hE hx hb hts hown hK hP fn_X5_192 1 rfl rfl dX5_planDefrosts_31 ?_
        refine lv_iadd hx hb dX5_planDefrosts_34 ?_
        refine lv_iload_n hx hb dX5_planDefrosts_35 rfl (lv_at hl 2 rfl) ?_
        have J_6 : ∀ (x_3 : Int32) (ex_3 : x_3 = (if sp < (t + (u 3)) then t else (t + (u 3)))) (x_4 : Int32) (ex_4 : x_4 = (if sp < (t + (u 3)) then 6 else 5)) (eS : sX5_planDefrosts g u rv t0 sp = (fun (x_3 : Int32) (x_4 : Int32) => (lp_X5_planDefrosts_5 g u rv t0 sp d (i + 1) x_3 (updR rv1 k_2 (upd (rv1 k_2) 9 x_4)))) x_3 x_4) (H : Heap) (locs : List Loc) (ls : Array Slot) (hP : va_P G vwCl (stW kk a g u (updR rv1 k_2 (upd (rv1 k_2) 9 x_4))) H) (hD : va_D A (stW kk a g u (updR rv1 k_2 (upd (rv1 k_2) 9 x_4)))) (hS : va_S A s.heap H locs) (hl : lv_has ls 6 [(5, .ref (a (3 + k_2))), (0, .ref (a 0)), (2, .int sp), (4, .int (nI i)), (3, .int x_3)]), GO p l e (rmO 1 26) s m ([.ref (a 0), .int t0, .int sp] : List Value).toArray below meth c A (QI G kk (stW kk a g u ((sX5_planDefrosts g u rv t0 sp).2)) ((sX5_planDefrosts g u rv t0 sp).1)) H locs (F0 m 65 ls []) := by
          intro x_3 ex_3 x_4 ex_4 eS H locs ls hP hD hS hl
          refine lv_iinc (v := (nI (i + 1))) (lv' := [(4, .int (nI (i + 1))), (5, .ref (a (3 + k_2))), (0, .ref (a 0)), (2, .int sp), (3, .int x_3)]) hx hb dX5_planDefrosts_65 hl (k := 3) rfl (nI_add i 1) (by decide) rfl (fun ls hl => ?_)
          refine lv_goto (tgt := 5) hx hb dX5_planDefrosts_68 (by decide) ?_
          exact ih (i + 1) x_3 (updR rv1 k_2 (upd (rv1 k_2) 9 x_4)) (by omega) eS _ _ ls hP hD hS (lv_sub hl [2, 3, 0, 4] rfl)
        refine lv_icmp_gt (tgt := 58) hx hb dX5_planDefrosts_36 (by decide) (fun c_36 => ?_) (fun c_36 => ?_)
        · refine lv_aload hx hb dX5_planDefrosts_58 (lv_at hl 0 rfl) ?_
          refine lv_bipush (v := 6) hx hb dX5_planDefrosts_60 (by decide) ?_
          refine r_putN hE hx hb hts hown hK hP hD hS fn_X5_141 fw_2_9 (3 + k_2) (st_at hk_2) rfl rfl (Nat.le_of_ble_eq_true rfl) dX5_planDefrosts_62 (fun H locs hP hD hS => ?_)
          replace hP : va_P G vwCl (stW kk a g u (updR rv1 k_2 (upd (rv1 k_2) 9 6))) H := vP_eq (st_put hk_2 (upd (rv1 k_2) 9 6) rfl) hP
          replace hD : va_D A (stW kk a g u (updR rv1 k_2 (upd (rv1 k_2) 9 6))) := vD_eq (st_put hk_2 (upd (rv1 k_2) 9 6) rfl) hD
          exact J_6 t (if_pos c_36).symm 6 (if_pos c_36).symm (eS.trans (cg2 ((fun (x_3 : Int32) (x_4 : Int32) => (lp_X5_planDefrosts_5 g u rv t0 sp d (i + 1) x_3 (updR rv1 k_2 (upd (rv1 k_2) 9 x_4))))) (if_pos c_36) (if_pos c_36))) _ _ ls hP hD hS (lv_sub hl [0, 1, 2, 3, 4] rfl)
        · refine lv_aload hx hb dX5_planDefrosts_39 (lv_at hl 0 rfl) ?_
          refine lv_iconst (v := 5) hx hb dX5_planDefrosts_41 (by decide) ?_
          refine r_putN hE hx hb hts hown hK hP hD hS fn_X5_141 fw_2_9 (3 + k_2) (st_at hk_2) rfl rfl (Nat.le_of_ble_eq_true rfl) dX5_planDefrosts_42 (fun H locs hP hD hS => ?_)
          replace hP : va_P G vwCl (stW kk a g u (updR rv1 k_2 (upd (rv1 k_2) 9 5))) H := vP_eq (st_put hk_2 (upd (rv1 k_2) 9 5) rfl) hP
          replace hD : va_D A (stW kk a g u (updR rv1 k_2 (upd (rv1 k_2) 9 5))) := vD_eq (st_put hk_2 (upd (rv1 k_2) 9 5) rfl) hD
          refine lv_iload_n hx hb dX5_planDefrosts_45 rfl (lv_at hl 4 rfl) ?_
          refine lv_aload_n hx hb dX5_planDefrosts_46 rfl (lv_at hl 1 rfl) ?_
          refine r_get (v := .ref (a 1)) hx hb hts hown hK hP fl_X5_12 0 rfl rfl dX5_planDefrosts_47 ?_
          refine r_getN (v := .int (u 3)) hE hx hb hts hown hK hP fn_X5_192 1 rfl rfl dX5_planDefrosts_50 ?_
          refine lv_iadd hx hb dX5_planDefrosts_53 ?_
          refine lv_istore_n (lv' := [(3, .int (t + (u 3))), (5, .ref (a (3 + k_2))), (0, .ref (a 0)), (2, .int sp), (4, .int (nI i))]) hx hb dX5_planDefrosts_54 rfl hl (by decide) rfl (fun ls hl => ?_)
          refine lv_goto (tgt := 65) hx hb dX5_planDefrosts_55 (by decide) ?_
          exact J_6 (t + (u 3)) (if_neg c_36).symm 5 (if_neg c_36).symm (eS.trans (cg2 ((fun (x_3 : Int32) (x_4 : Int32) => (lp_X5_planDefrosts_5 g u rv t0 sp d (i + 1) x_3 (updR rv1 k_2 (upd (rv1 k_2) 9 x_4))))) (if_neg c_36) (if_neg c_36))) _ _ ls hP hD hS (lv_sub hl [1, 2, 3, 4, 0] rfl)
  exact L_5 6 0 t0 rv rfl eS _ _ ls hP hD hS (lv_sub hl [2, 4, 0, 1] rfl)
def sX5_planMinute_z_3 (g : Nat → Int32) (u : Nat → Int32) (rv : Nat → Nat → Int32) (z_1 : Int32 × (Nat → Nat → Int32)) (z_2 : Int32 × (Nat → Nat → Int32)) (z_3 : Int32 × (Nat → Nat → Int32)) : Int32 × (Nat → Nat → Int32) :=
  (z_3.1, z_3.2)
def sX5_planMinute_z_2 (g : Nat → Int32) (u : Nat → Int32) (rv : Nat → Nat → Int32) (z_1 : Int32 × (Nat → Nat → Int32)) (z_2 : Int32 × (Nat → Nat → Int32)) : Int32 × (Nat → Nat → Int32) :=
  (sX5_planMinute_z_3 g u rv z_1 z_2 (sX5_planDefrosts g u z_2.2 z_2.1 (sX5_spareKilowatts g u)))
def sX5_planMinute_z_1 (g : Nat → Int32) (u : Nat → Int32) (rv : Nat → Nat → Int32) (z_1 : Int32 × (Nat → Nat → Int32)) : Int32 × (Nat → Nat → Int32) :=
  (sX5_planMinute_z_2 g u rv z_1 (sX5_planCompressors g u z_1.2 z_1.1 (sX5_spareKilowatts g u)))
def sX5_planMinute (g : Nat → Int32) (u : Nat → Int32) (rv : Nat → Nat → Int32) : Int32 × (Nat → Nat → Int32) :=
  (sX5_planMinute_z_1 g u rv (sX5_planMusts g u rv))
set_option maxRecDepth 100000 in
set_option maxHeartbeats 4000000 in
theorem c_X5_planMinute (l : Launch) (G : va_G) (kk : Nat → ClassId) (a : Nat → Nat) (g : Nat → Int32) (u : Nat → Int32) (rv : Nat → Nat → Int32)  : CC l yX5_planMinute cX5_planMinute 3 (some .int) (rmO 2 52) [.ref (a 0)] G kk (stW kk a g u rv) (QI G kk (stW kk a g u ((sX5_planMinute g u rv).2)) ((sX5_planMinute g u rv).1)) := by
  refine cc_start (by decide +kernel) (Nat.le_of_ble_eq_true rfl) ?_
  intro p e s m below meth c A ls hx hb hr hml hown hts hlocks hA hE hK hP hD hS hl
  have hown : s.vm.findClass RX5 = some m.cls := hown
  have hl : lv_has ls 3 [(0, .ref (a 0))] := hl
  have eS : sX5_planMinute g u rv = sX5_planMinute g u rv := rfl
  refine lv_aload_n hx hb dX5_planMinute_0 rfl (lv_at hl 0 rfl) ?_
  refine k_goI (k_runV (rest := []) (As := []) hx hb hml hown hts hK hP hD hS hA hE hl.1 (c_X5_spareKilowatts l G kk (a 0) (a 1) (a 2) g u ) vl_X5_174 rfl rfl rfl ⟨Nat.le_of_ble_eq_true rfl, Nat.le_of_ble_eq_true rfl, rfl, rfl⟩ [0, 1] rfl rfl ⟨Nat.zero_le _, Nat.zero_le _⟩ rfl (Nat.le_of_ble_eq_true rfl) dX5_planMinute_1) hP hD hS hA [0, 1] rfl ads2 (fun H locs hP hD hS => ?_)
  replace hP : va_P G vwCl (stW kk a g u rv) H := hP
  replace hD : va_D A (stW kk a g u rv) := hD
  refine lv_istore_n (lv' := [(1, .int (sX5_spareKilowatts g u)), (0, .ref (a 0))]) hx hb dX5_planMinute_4 rfl hl (by decide) rfl (fun ls hl => ?_)
  refine lv_aload_n hx hb dX5_planMinute_5 rfl (lv_at hl 1 rfl) ?_
  refine k_goI (k_runV (rest := []) (As := []) hx hb hml hown hts hK hP hD hS hA hE hl.1 (c_X5_planMusts l G kk a g u rv ) vl_X5_177 rfl rfl rfl ⟨Nat.le_of_ble_eq_true rfl, Nat.le_of_ble_eq_true rfl, rfl, rfl⟩ [0, 1, 2, 3, 4, 5, 6, 7, 8] rfl st_mapC ⟨Nat.zero_le _, Nat.zero_le _⟩ rfl (Nat.le_of_ble_eq_true rfl) dX5_planMinute_6) hP hD hS hA [0, 1, 2, 3, 4, 5, 6, 7, 8] st_mapC st_ads (fun H locs hP hD hS => ?_)
  replace hP : va_P G vwCl (stW kk a g u ((sX5_planMusts g u rv).2)) H := vP_eq (st_full) hP
  replace hD : va_D A (stW kk a g u ((sX5_planMusts g u rv).2)) := vD_eq (st_full) hD
  have eS : sX5_planMinute g u rv = sX5_planMinute_z_1 g u rv (sX5_planMusts g u rv) := eS
  generalize sX5_planMusts g u rv = z_1 at hP hD eS ⊢
  refine lv_istore_n (lv' := [(2, .int z_1.1), (1, .int (sX5_spareKilowatts g u)), (0, .ref (a 0))]) hx hb dX5_planMinute_9 rfl hl (by decide) rfl (fun ls hl => ?_)
  refine lv_aload_n hx hb dX5_planMinute_10 rfl (lv_at hl 2 rfl) ?_
  refine lv_iload_n hx hb dX5_planMinute_11 rfl (lv_at hl 0 rfl) ?_
  refine lv_iload_n hx hb dX5_planMinute_12 rfl (lv_at hl 1 rfl) ?_
  refine k_goI (k_runV (rest := []) (As := [.int z_1.1, .int (sX5_spareKilowatts g u)]) hx hb hml hown hts hK hP hD hS hA hE hl.1 (c_X5_planCompressors l G kk a g u z_1.2 z_1.1 (sX5_spareKilowatts g u) ) vl_X5_180 rfl rfl rfl ⟨Nat.le_of_ble_eq_true rfl, Nat.le_of_ble_eq_true rfl, rfl, rfl⟩ [0, 1, 2, 3, 4, 5, 6, 7, 8] rfl st_mapC ⟨Nat.zero_le _, Nat.zero_le _⟩ rfl (Nat.le_of_ble_eq_true rfl) dX5_planMinute_13) hP hD hS hA [0, 1, 2, 3, 4, 5, 6, 7, 8] st_mapC st_ads (fun H locs hP hD hS => ?_)
  replace hP : va_P G vwCl (stW kk a g u ((sX5_planCompressors g u z_1.2 z_1.1 (sX5_spareKilowatts g u)).2)) H := vP_eq (st_full) hP
  replace hD : va_D A (stW kk a g u ((sX5_planCompressors g u z_1.2 z_1.1 (sX5_spareKilowatts g u)).2)) := vD_eq (st_full) hD
  have eS : sX5_planMinute g u rv = sX5_planMinute_z_2 g u rv z_1 (sX5_planCompressors g u z_1.2 z_1.1 (sX5_spareKilowatts g u)) := eS
  generalize sX5_planCompressors g u z_1.2 z_1.1 (sX5_spareKilowatts g u) = z_2 at hP hD eS ⊢
  refine lv_istore_n (lv' := [(2, .int z_2.1), (1, .int (sX5_spareKilowatts g u)), (0, .ref (a 0))]) hx hb dX5_planMinute_16 rfl hl (by decide) rfl (fun ls hl => ?_)
  refine lv_aload_n hx hb dX5_planMinute_17 rfl (lv_at hl 2 rfl) ?_
  refine lv_iload_n hx hb dX5_planMinute_18 rfl (lv_at hl 0 rfl) ?_
  refine lv_iload_n hx hb dX5_planMinute_19 rfl (lv_at hl 1 rfl) ?_
  refine k_goI (k_runV (rest := []) (As := [.int z_2.1, .int (sX5_spareKilowatts g u)]) hx hb hml hown hts hK hP hD hS hA hE hl.1 (c_X5_planDefrosts l G kk a g u z_2.2 z_2.1 (sX5_spareKilowatts g u) ) vl_X5_183 rfl rfl rfl ⟨Nat.le_of_ble_eq_true rfl, Nat.le_of_ble_eq_true rfl, rfl, rfl⟩ [0, 1, 2, 3, 4, 5, 6, 7, 8] rfl st_mapC ⟨Nat.zero_le _, Nat.zero_le _⟩ rfl (Nat.le_of_ble_eq_true rfl) dX5_planMinute_20) hP hD hS hA [0, 1, 2, 3, 4, 5, 6, 7, 8] st_mapC st_ads (fun H locs hP hD hS => ?_)
  replace hP : va_P G vwCl (stW kk a g u ((sX5_planDefrosts g u z_2.2 z_2.1 (sX5_spareKilowatts g u)).2)) H := vP_eq (st_full) hP
  replace hD : va_D A (stW kk a g u ((sX5_planDefrosts g u z_2.2 z_2.1 (sX5_spareKilowatts g u)).2)) := vD_eq (st_full) hD
  have eS : sX5_planMinute g u rv = sX5_planMinute_z_3 g u rv z_1 z_2 (sX5_planDefrosts g u z_2.2 z_2.1 (sX5_spareKilowatts g u)) := eS
  generalize sX5_planDefrosts g u z_2.2 z_2.1 (sX5_spareKilowatts g u) = z_3 at hP hD eS ⊢
  exact fin_i hx hb hr hlocks hK (vP_eq (congrArg (fun z : Int32 × (Nat → Nat → Int32) => (stW kk a g u z.2 : va_W)) eS.symm) hP) (vD_eq (congrArg (fun z : Int32 × (Nat → Nat → Int32) => (stW kk a g u z.2 : va_W)) eS.symm) hD) hS ((congrArg (fun z : Int32 × (Nat → Nat → Int32) => z.1) eS).trans rfl) dX5_planMinute_23
def lp_X5_passMinute_26 (g : Nat → Int32) (u : Nat → Int32) (rv : Nat → Nat → Int32) (z_1 : Int32 × (Nat → Nat → Int32)) (z_2 : (Nat → Int32)) : Nat → Nat → (Nat → Int32) → (Nat → Nat → Int32) → (Nat → Int32) × (Nat → Nat → Int32)
  | 0, i, g1, rv1 => ((upd g1 1 ((g1 1) + 1)), rv1)
  | d + 1, i, g1, rv1 => (if (sX2_isThere (rv1 i)) = 0 then (lp_X5_passMinute_26 g u rv z_1 z_2 d (i + 1) g1 rv1) else ((fun (z_3 : (Nat → Int32) × (Nat → Int32)) => ((fun (z_4 : (Nat → Int32)) => ((fun (z_5 : (Nat → Int32)) => ((fun (z_6 : (Nat → Int32) × (Nat → Int32)) => (lp_X5_passMinute_26 g u rv z_1 z_2 d (i + 1) z_6.1 (updR rv1 i z_6.2))) (sX5_countMinute z_3.1 z_5))) (sX2_changeFrost z_4))) (sX2_changeTemperature z_3.2))) (sX5_beginDefrost g1 u (rv1 i))))
def sX5_passMinute_z_2 (g : Nat → Int32) (u : Nat → Int32) (rv : Nat → Nat → Int32) (z_1 : Int32 × (Nat → Nat → Int32)) (z_2 : (Nat → Int32)) : (Nat → Int32) × (Nat → Nat → Int32) :=
  (lp_X5_passMinute_26 g u rv z_1 z_2 6 0 z_2 z_1.2)
def sX5_passMinute_z_1 (g : Nat → Int32) (u : Nat → Int32) (rv : Nat → Nat → Int32) (z_1 : Int32 × (Nat → Nat → Int32)) : (Nat → Int32) × (Nat → Nat → Int32) :=
  (sX5_passMinute_z_2 g u rv z_1 (sX5_takeUnits g u (z_1.1 + (u 2))))
def sX5_passMinute (g : Nat → Int32) (u : Nat → Int32) (rv : Nat → Nat → Int32) : (Nat → Int32) × (Nat → Nat → Int32) :=
  (sX5_passMinute_z_1 g u rv (sX5_planMinute g u rv))
set_option maxRecDepth 100000 in
set_option maxHeartbeats 4000000 in
theorem c_X5_passMinute (l : Launch) (G : va_G) (kk : Nat → ClassId) (a : Nat → Nat) (g : Nat → Int32) (u : Nat → Int32) (rv : Nat → Nat → Int32)  : CC l yX5_passMinute cX5_passMinute 5 none (rmO 3 74) [.ref (a 0)] G kk (stW kk a g u rv) (QV G kk (stW kk a ((sX5_passMinute g u rv).1) u ((sX5_passMinute g u rv).2))) := by
  refine cc_start (by decide +kernel) (Nat.le_of_ble_eq_true rfl) ?_
  intro p e s m below meth c A ls hx hb hr hml hown hts hlocks hA hE hK hP hD hS hl
  have hown : s.vm.findClass RX5 = some m.cls := hown
  have hl : lv_has ls 5 [(0, .ref (a 0))] := hl
  have eS : sX5_passMinute g u rv = sX5_passMinute g u rv := rfl
  refine lv_aload_n hx hb dX5_passMinute_0 rfl (lv_at hl 0 rfl) ?_
  refine lv_aload_n hx hb dX5_passMinute_1 rfl (lv_at hl 0 rfl) ?_
  refine k_goI (k_runV (rest := [.ref (a 0)]) (As := []) hx hb hml hown hts hK hP hD hS hA hE hl.1 (c_X5_planMinute l G kk a g u rv ) vl_X5_120 rfl rfl rfl ⟨Nat.le_of_ble_eq_true rfl, Nat.le_of_ble_eq_true rfl, rfl, rfl⟩ [0, 1, 2, 3, 4, 5, 6, 7, 8] rfl st_mapC ⟨Nat.zero_le _, Nat.zero_le _⟩ rfl (Nat.le_of_ble_eq_true rfl) dX5_passMinute_2) hP hD hS hA [0, 1, 2, 3, 4, 5, 6, 7, 8] st_mapC st_ads (fun H locs hP hD hS => ?_)
  replace hP : va_P G vwCl (stW kk a g u ((sX5_planMinute g u rv).2)) H := vP_eq (st_full) hP
  replace hD : va_D A (stW kk a g u ((sX5_planMinute g u rv).2)) := vD_eq (st_full) hD
  have eS : sX5_passMinute g u rv = sX5_passMinute_z_1 g u rv (sX5_planMinute g u rv) := eS
  generalize sX5_planMinute g u rv = z_1 at hP hD eS ⊢
  refine lv_aload_n hx hb dX5_passMinute_5 rfl (lv_at hl 0 rfl) ?_
  refine r_get (v := .ref (a 1)) hx hb hts hown hK hP fl_X5_12 0 rfl rfl dX5_passMinute_6 ?_
  refine r_getN (v := .int (u 2)) hE hx hb hts hown hK hP fn_X5_123 1 rfl rfl dX5_passMinute_9 ?_
  refine lv_iadd hx hb dX5_passMinute_12 ?_
  refine k_goV (k_runV (rest := []) (As := [.int (z_1.1 + (u 2))]) hx hb hml hown hts hK hP hD hS hA hE hl.1 (c_X5_takeUnits l G kk (a 0) (a 1) (a 2) g u (z_1.1 + (u 2)) ) vl_X5_126 rfl rfl rfl ⟨Nat.le_of_ble_eq_true rfl, Nat.le_of_ble_eq_true rfl, rfl, rfl⟩ [0, 1] rfl rfl ⟨Nat.zero_le _, Nat.zero_le _⟩ rfl (Nat.le_of_ble_eq_true rfl) dX5_passMinute_13) hP hD hS hA [0, 1] rfl ads2 (fun H locs hP hD hS => ?_)
  replace hP : va_P G vwCl (stW kk a (sX5_takeUnits g u (z_1.1 + (u 2))) u z_1.2) H := hP
  replace hD : va_D A (stW kk a (sX5_takeUnits g u (z_1.1 + (u 2))) u z_1.2) := hD
  have eS : sX5_passMinute g u rv = sX5_passMinute_z_2 g u rv z_1 (sX5_takeUnits g u (z_1.1 + (u 2))) := eS
  generalize sX5_takeUnits g u (z_1.1 + (u 2)) = z_2 at hP hD eS ⊢
  refine lv_aload_n hx hb dX5_passMinute_16 rfl (lv_at hl 0 rfl) ?_
  refine r_get (v := .ref (a 2)) hx hb hts hown hK hP fl_X5_20 0 rfl rfl dX5_passMinute_17 ?_
  refine lv_astore_n (lv' := [(1, .ref (a 2)), (0, .ref (a 0))]) hx hb dX5_passMinute_20 rfl hl (by decide) rfl (fun ls hl => ?_)
  refine lv_aload_n hx hb dX5_passMinute_21 rfl (lv_at hl 0 rfl) ?_
  refine r_alen (t0 := 3) hx hb hK hP 2 rfl rfl dX5_passMinute_22 ?_
  refine lv_istore_n (lv' := [(2, .int (nI 6)), (1, .ref (a 2)), (0, .ref (a 0))]) hx hb dX5_passMinute_23 rfl hl (by decide) rfl (fun ls hl => ?_)
  refine lv_iconst (v := 0) hx hb dX5_passMinute_24 (by decide) ?_
  refine lv_istore_n (lv' := [(3, .int 0), (2, .int (nI 6)), (1, .ref (a 2)), (0, .ref (a 0))]) hx hb dX5_passMinute_25 rfl hl (by decide) rfl (fun ls hl => ?_)
  have L_7 : ∀ (d : Nat) (i : Nat) (g1 : Nat → Int32) (rv1 : Nat → Nat → Int32) (hd : i + d = 6) (eS : sX5_passMinute g u rv = lp_X5_passMinute_26 g u rv z_1 z_2 d i g1 rv1) (H : Heap) (locs : List Loc) (ls : Array Slot) (hP : va_P G vwCl (stW kk a g1 u rv1) H) (hD : va_D A (stW kk a g1 u rv1)) (hS : va_S A s.heap H locs) (hl : lv_has ls 5 [(2, .int (nI 6)), (1, .ref (a 2)), (0, .ref (a 0)), (3, .int (nI i))]), GO p l e (rmO 3 74) s m ([.ref (a 0)] : List Value).toArray below meth c A (QV G kk (stW kk a ((sX5_passMinute g u rv).1) u ((sX5_passMinute g u rv).2))) H locs (F0 m 26 ls []) := by
    intro d
    induction d with
    | zero =>
      intro i g1 rv1 hd eS H locs ls hP hD hS hl
      refine lv_iload_n hx hb dX5_passMinute_26 rfl (lv_at hl 3 rfl) ?_
      refine lv_iload_n hx hb dX5_passMinute_27 rfl (lv_at hl 0 rfl) ?_
      refine lv_icmp_ge (tgt := 72) hx hb dX5_passMinute_28 (by decide) (fun c_28 => ?_) (fun c_28 => absurd (nI_le (by omega) (by omega)) c_28)
      refine lv_aload_n hx hb dX5_passMinute_72 rfl (lv_at hl 2 rfl) ?_
      refine lv_dup hx hb dX5_passMinute_73 rfl ?_
      refine r_get (v := .int (g1 1)) hx hb hts hown hK hP fl_X5_34 0 rfl rfl dX5_passMinute_74 ?_
      refine lv_iconst (v := 1) hx hb dX5_passMinute_77 (by decide) ?_
      refine lv_iadd hx hb dX5_passMinute_78 ?_
      refine r_put hx hb hts hown hK hP hD hS fl_X5_34 fw_5_2 0 rfl rfl rfl (Nat.le_of_ble_eq_true rfl) dX5_passMinute_79 (fun H locs hP hD hS => ?_)
      replace hP : va_P G vwCl (stW kk a (upd g1 1 ((g1 1) + 1)) u rv1) H := hP
      replace hD : va_D A (stW kk a (upd g1 1 ((g1 1) + 1)) u rv1) := hD
      exact fin_v hx hb hr hlocks hK (vP_eq (congrArg (fun z : (Nat → Int32) × (Nat → Nat → Int32) => (stW kk a z.1 u z.2 : va_W)) eS.symm) hP) (vD_eq (congrArg (fun z : (Nat → Int32) × (Nat → Nat → Int32) => (stW kk a z.1 u z.2 : va_W)) eS.symm) hD) hS dX5_passMinute_82
    | succ d ih =>
      intro i g1 rv1 hd eS H locs ls hP hD hS hl
      have hi : i < 6 := by omega
      refine lv_iload_n hx hb dX5_passMinute_26 rfl (lv_at hl 3 rfl) ?_
      refine lv_iload_n hx hb dX5_passMinute_27 rfl (lv_at hl 0 rfl) ?_
      refine lv_icmp_ge (tgt := 72) hx hb dX5_passMinute_28 (by decide) (fun c_28 => absurd c_28 (nI_ge (by omega) (by decide))) (fun c_28 => ?_)
      refine lv_aload_n hx hb dX5_passMinute_31 rfl (lv_at hl 1 rfl) ?_
      refine lv_iload_n hx hb dX5_passMinute_32 rfl (lv_at hl 3 rfl) ?_
      refine r_aald hx hb hK hP 2 3 rfl rfl i (a (3 + i)) rfl (by omega) (by decide) rfl dX5_passMinute_33 ?_
      refine lv_astore (lv' := [(4, .ref (a (3 + i))), (2, .int (nI 6)), (1, .ref (a 2)), (0, .ref (a 0)), (3, .int (nI i))]) hx hb dX5_passMinute_34 hl (by decide) rfl (fun ls hl => ?_)
      refine lv_aload hx hb dX5_passMinute_36 (lv_at hl 0 rfl) ?_
      refine k_goI (k_runV (rest := []) (As := []) hx hb hml hown hts hK hP hD hS hA hE hl.1 (c_X2_isThere l G kk (a (3 + i)) (rv1 i) ) vl_X5_69 rfl rfl rfl ⟨Nat.le_of_ble_eq_true rfl, Nat.le_of_ble_eq_true rfl, rfl, rfl⟩ [3 + i] (nd1 _) (map1 (st_at hi)) ⟨Nat.zero_le _, Nat.zero_le _⟩ rfl (Nat.le_of_ble_eq_true rfl) dX5_passMinute_38) hP hD hS hA [3 + i] (map1 (st_at hi)) ads1 (fun H locs hP hD hS => ?_)
      replace hP : va_P G vwCl (stW kk a g1 u rv1) H := vP_eq (st_same (g := g1) (u := u) hi) hP
      replace hD : va_D A (stW kk a g1 u rv1) := vD_eq (st_same (g := g1) (u := u) hi) hD
      refine lv_if_eq (tgt := 66) hx hb dX5_passMinute_41 (by decide) (fun c_41 => ?_) (fun c_41 => ?_)
      · have eS := eS.trans (if_pos c_41)
        refine lv_iinc (v := (nI (i + 1))) (lv' := [(3, .int (nI (i + 1))), (4, .ref (a (3 + i))), (2, .int (nI 6)), (1, .ref (a 2)), (0, .ref (a 0))]) hx hb dX5_passMinute_66 hl (k := 4) rfl (nI_add i 1) (by decide) rfl (fun ls hl => ?_)
        refine lv_goto (tgt := 26) hx hb dX5_passMinute_69 (by decide) ?_
        exact ih (i + 1) g1 rv1 (by omega) eS _ _ ls hP hD hS (lv_sub hl [2, 3, 4, 0] rfl)
      · have eS := eS.trans (if_neg c_41)
        refine lv_aload_n hx hb dX5_passMinute_44 rfl (lv_at hl 3 rfl) ?_
        refine lv_aload hx hb dX5_passMinute_45 (lv_at hl 0 rfl) ?_
        refine k_goV (k_runV (rest := []) (As := [.ref (a (3 + i))]) hx hb hml hown hts hK hP hD hS hA hE hl.1 (c_X5_beginDefrost l G kk (a 0) (a 1) (a 2) g1 u (a (3 + i)) (rv1 i) ) vl_X5_129 rfl rfl rfl ⟨Nat.le_of_ble_eq_true rfl, Nat.le_of_ble_eq_true rfl, rfl, rfl⟩ [0, 1, 3 + i] (nd013 _) (map3 rfl rfl (st_at hi)) ⟨Nat.zero_le _, Nat.zero_le _⟩ rfl (Nat.le_of_ble_eq_true rfl) dX5_passMinute_47) hP hD hS hA [0, 1, 3 + i] (map3 rfl rfl (st_at hi)) ads3 (fun H locs hP hD hS => ?_)
        replace hP : va_P G vwCl (stW kk a ((sX5_beginDefrost g1 u (rv1 i)).1) u (updR rv1 i ((sX5_beginDefrost g1 u (rv1 i)).2))) H := vP_eq (st_put (g := ((sX5_beginDefrost g1 u (rv1 i)).1)) (u := u) hi ((sX5_beginDefrost g1 u (rv1 i)).2) rfl) hP
        replace hD : va_D A (stW kk a ((sX5_beginDefrost g1 u (rv1 i)).1) u (updR rv1 i ((sX5_beginDefrost g1 u (rv1 i)).2))) := vD_eq (st_put (g := ((sX5_beginDefrost g1 u (rv1 i)).1)) (u := u) hi ((sX5_beginDefrost g1 u (rv1 i)).2) rfl) hD
        have eS : sX5_passMinute g u rv = (fun (z_3 : (Nat → Int32) × (Nat → Int32)) => ((fun (z_4 : (Nat → Int32)) => ((fun (z_5 : (Nat → Int32)) => ((fun (z_6 : (Nat → Int32) × (Nat → Int32)) => (lp_X5_passMinute_26 g u rv z_1 z_2 d (i + 1) z_6.1 (updR rv1 i z_6.2))) (sX5_countMinute z_3.1 z_5))) (sX2_changeFrost z_4))) (sX2_changeTemperature z_3.2))) (sX5_beginDefrost g1 u (rv1 i)) := eS
        generalize sX5_beginDefrost g1 u (rv1 i) = z_3 at hP hD eS ⊢
        refine lv_aload hx hb dX5_passMinute_50 (lv_at hl 0 rfl) ?_
        refine k_goV (k_runV (rest := []) (As := []) hx hb hml hown hts hK hP hD hS hA hE hl.1 (c_X2_changeTemperature l G kk (a (3 + i)) z_3.2 ) vl_X5_132 rfl rfl rfl ⟨Nat.le_of_ble_eq_true rfl, Nat.le_of_ble_eq_true rfl, rfl, rfl⟩ [3 + i] (nd1 _) (map1 (st_atU hi)) ⟨Nat.zero_le _, Nat.zero_le _⟩ rfl (Nat.le_of_ble_eq_true rfl) dX5_passMinute_52) hP hD hS hA [3 + i] (map1 (st_atU hi)) ads1 (fun H locs hP hD hS => ?_)
        replace hP : va_P G vwCl (stW kk a z_3.1 u (updR rv1 i (sX2_changeTemperature z_3.2))) H := vP_eq (st_putU (g := z_3.1) (u := u) hi (sX2_changeTemperature z_3.2) rfl) hP
        replace hD : va_D A (stW kk a z_3.1 u (updR rv1 i (sX2_changeTemperature z_3.2))) := vD_eq (st_putU (g := z_3.1) (u := u) hi (sX2_changeTemperature z_3.2) rfl) hD
        have eS : sX5_passMinute g u rv = (fun (z_4 : (Nat → Int32)) => ((fun (z_5 : (Nat → Int32)) => ((fun (z_6 : (Nat → Int32) × (Nat → Int32)) => (lp_X5_passMinute_26 g u rv z_1 z_2 d (i + 1) z_6.1 (updR rv1 i z_6.2))) (sX5_countMinute z_3.1 z_5))) (sX2_changeFrost z_4))) (sX2_changeTemperature z_3.2) := eS
        generalize sX2_changeTemperature z_3.2 = z_4 at hP hD eS ⊢
        refine lv_aload hx hb dX5_passMinute_55 (lv_at hl 0 rfl) ?_
        refine k_goV (k_runV (rest := []) (As := []) hx hb hml hown hts hK hP hD hS hA hE hl.1 (c_X2_changeFrost l G kk (a (3 + i)) z_4 ) vl_X5_135 rfl rfl rfl ⟨Nat.le_of_ble_eq_true rfl, Nat.le_of_ble_eq_true rfl, rfl, rfl⟩ [3 + i] (nd1 _) (map1 (st_atU hi)) ⟨Nat.zero_le _, Nat.zero_le _⟩ rfl (Nat.le_of_ble_eq_true rfl) dX5_passMinute_57) hP hD hS hA [3 + i] (map1 (st_atU hi)) ads1 (fun H locs hP hD hS => ?_)
        replace hP : va_P G vwCl (stW kk a z_3.1 u (updR rv1 i (sX2_changeFrost z_4))) H := vP_eq (st_putU (g := z_3.1) (u := u) hi (sX2_changeFrost z_4) rfl) hP
        replace hD : va_D A (stW kk a z_3.1 u (updR rv1 i (sX2_changeFrost z_4))) := vD_eq (st_putU (g := z_3.1) (u := u) hi (sX2_changeFrost z_4) rfl) hD
        have eS : sX5_passMinute g u rv = (fun (z_5 : (Nat → Int32)) => ((fun (z_6 : (Nat → Int32) × (Nat → Int32)) => (lp_X5_passMinute_26 g u rv z_1 z_2 d (i + 1) z_6.1 (updR rv1 i z_6.2))) (sX5_countMinute z_3.1 z_5))) (sX2_changeFrost z_4) := eS
        generalize sX2_changeFrost z_4 = z_5 at hP hD eS ⊢
        refine lv_aload_n hx hb dX5_passMinute_60 rfl (lv_at hl 3 rfl) ?_
        refine lv_aload hx hb dX5_passMinute_61 (lv_at hl 0 rfl) ?_
        refine k_goV (k_runV (rest := []) (As := [.ref (a (3 + i))]) hx hb hml hown hts hK hP hD hS hA hE hl.1 (c_X5_countMinute l G kk (a 0) (a 1) (a 2) z_3.1 (a (3 + i)) z_5 ) vl_X5_138 rfl rfl rfl ⟨Nat.le_of_ble_eq_true rfl, Nat.le_of_ble_eq_true rfl, rfl, rfl⟩ [0, 3 + i] (nd03 _) (map2 rfl (st_atU hi)) ⟨Nat.zero_le _, Nat.zero_le _⟩ rfl (Nat.le_of_ble_eq_true rfl) dX5_passMinute_63) hP hD hS hA [0, 3 + i] (map2 rfl (st_atU hi)) ads2 (fun H locs hP hD hS => ?_)
        replace hP : va_P G vwCl (stW kk a ((sX5_countMinute z_3.1 z_5).1) u (updR rv1 i ((sX5_countMinute z_3.1 z_5).2))) H := vP_eq (st_putU (g := ((sX5_countMinute z_3.1 z_5).1)) (u := u) hi ((sX5_countMinute z_3.1 z_5).2) rfl) hP
        replace hD : va_D A (stW kk a ((sX5_countMinute z_3.1 z_5).1) u (updR rv1 i ((sX5_countMinute z_3.1 z_5).2))) := vD_eq (st_putU (g := ((sX5_countMinute z_3.1 z_5).1)) (u := u) hi ((sX5_countMinute z_3.1 z_5).2) rfl) hD
        have eS : sX5_passMinute g u rv = (fun (z_6 : (Nat → Int32) × (Nat → Int32)) => (lp_X5_passMinute_26 g u rv z_1 z_2 d (i + 1) z_6.1 (updR rv1 i z_6.2))) (sX5_countMinute z_3.1 z_5) := eS
        generalize sX5_countMinute z_3.1 z_5 = z_6 at hP hD eS ⊢
        refine lv_iinc (v := (nI (i + 1))) (lv' := [(3, .int (nI (i + 1))), (4, .ref (a (3 + i))), (2, .int (nI 6)), (1, .ref (a 2)), (0, .ref (a 0))]) hx hb dX5_passMinute_66 hl (k := 4) rfl (nI_add i 1) (by decide) rfl (fun ls hl => ?_)
        refine lv_goto (tgt := 26) hx hb dX5_passMinute_69 (by decide) ?_
        exact ih (i + 1) z_6.1 (updR rv1 i z_6.2) (by omega) eS _ _ ls hP hD hS (lv_sub hl [2, 3, 4, 0] rfl)
  exact L_7 6 0 z_2 z_1.2 rfl eS _ _ ls hP hD hS (lv_sub hl [1, 2, 3, 0] rfl)
def lp_X5_passMinutes_11 (g : Nat → Int32) (u : Nat → Int32) (rv : Nat → Nat → Int32) (n : Int32) : Nat → Nat → (Nat → Int32) → (Nat → Nat → Int32) → Int32 × (Nat → Int32) × (Nat → Nat → Int32)
  | 0, i, g1, rv1 => (1, g1, rv1)
  | d + 1, i, g1, rv1 => ((fun (z_1 : (Nat → Int32) × (Nat → Nat → Int32)) => (lp_X5_passMinutes_11 g u rv n d (i + 1) z_1.1 z_1.2)) (sX5_passMinute g1 u rv1))
def sX5_passMinutes (g : Nat → Int32) (u : Nat → Int32) (rv : Nat → Nat → Int32) (n : Int32) : Int32 × (Nat → Int32) × (Nat → Nat → Int32) :=
  (if (sX5_canPass n) = 0 then (0, g, rv) else (lp_X5_passMinutes_11 g u rv n n.toNatClampNeg 0 g rv))
set_option maxRecDepth 100000 in
set_option maxHeartbeats 4000000 in
theorem c_X5_passMinutes (l : Launch) (G : va_G) (kk : Nat → ClassId) (a : Nat → Nat) (g : Nat → Int32) (u : Nat → Int32) (rv : Nat → Nat → Int32) (n : Int32)  : CC l yX5_passMinutes cX5_passMinutes 3 (some .boolean) (rmO 4 98) [.ref (a 0), .int n] G kk (stW kk a g u rv) (QI G kk (stW kk a ((sX5_passMinutes g u rv n).2.1) u ((sX5_passMinutes g u rv n).2.2)) ((sX5_passMinutes g u rv n).1)) := by
  refine cc_start (by decide +kernel) (Nat.le_of_ble_eq_true rfl) ?_
  intro p e s m below meth c A ls hx hb hr hml hown hts hlocks hA hE hK hP hD hS hl
  have hown : s.vm.findClass RX5 = some m.cls := hown
  have hl : lv_has ls 3 [(0, .ref (a 0)), (1, .int n)] := hl
  have eS : sX5_passMinutes g u rv n = sX5_passMinutes g u rv n := rfl
  refine lv_iload_n hx hb dX5_passMinutes_0 rfl (lv_at hl 1 rfl) ?_
  refine k_goI (k_runS (rest := []) (As := [.int n]) hx hb hml hown hts hK hP hD hS hA hE hl.1 (c_X5_canPass l G kk n ) sl_X5_114 ⟨Nat.le_of_ble_eq_true rfl, Nat.le_of_ble_eq_true rfl, rfl, rfl⟩ [] rfl rfl ⟨Nat.zero_le _, Nat.zero_le _⟩ rfl (Nat.le_of_ble_eq_true rfl) dX5_passMinutes_1) hP hD hS hA [] rfl ads0 (fun H locs hP hD hS => ?_)
  replace hP : va_P G vwCl (stW kk a g u rv) H := hP
  replace hD : va_D A (stW kk a g u rv) := hD
  refine lv_if_ne (tgt := 9) hx hb dX5_passMinutes_4 (by decide) (fun c_4 => ?_) (fun c_4 => ?_)
  · have eS := eS.trans (if_neg c_4)
    have hn := canPass_e c_4
    refine lv_iconst (v := 0) hx hb dX5_passMinutes_9 (by decide) ?_
    refine lv_istore_n (lv' := [(2, .int 0), (0, .ref (a 0)), (1, .int n)]) hx hb dX5_passMinutes_10 rfl hl (by decide) rfl (fun ls hl => ?_)
    have L_2 : ∀ (d : Nat) (i : Nat) (g1 : Nat → Int32) (rv1 : Nat → Nat → Int32) (hd : i + d = n.toNatClampNeg) (eS : sX5_passMinutes g u rv n = lp_X5_passMinutes_11 g u rv n d i g1 rv1) (H : Heap) (locs : List Loc) (ls : Array Slot) (hP : va_P G vwCl (stW kk a g1 u rv1) H) (hD : va_D A (stW kk a g1 u rv1)) (hS : va_S A s.heap H locs) (hl : lv_has ls 3 [(0, .ref (a 0)), (1, .int n), (2, .int (nI i))]), GO p l e (rmO 4 98) s m ([.ref (a 0), .int n] : List Value).toArray below meth c A (QI G kk (stW kk a ((sX5_passMinutes g u rv n).2.1) u ((sX5_passMinutes g u rv n).2.2)) ((sX5_passMinutes g u rv n).1)) H locs (F0 m 11 ls []) := by
      intro d
      induction d with
      | zero =>
        intro i g1 rv1 hd eS H locs ls hP hD hS hl
        refine lv_iload_n hx hb dX5_passMinutes_11 rfl (lv_at hl 2 rfl) ?_
        refine lv_iload_n hx hb dX5_passMinutes_12 rfl (lv_at hl 1 rfl) ?_
        refine lv_icmp_ge (tgt := 26) hx hb dX5_passMinutes_13 (by decide) (fun c_13 => ?_) (fun c_13 => absurd (cl_le hn (by omega) (by have := @cl_b n; omega)) c_13)
        refine lv_iconst (v := 1) hx hb dX5_passMinutes_26 (by decide) ?_
        exact fin_z hx hb hr hlocks hK (vP_eq (congrArg (fun z : Int32 × (Nat → Int32) × (Nat → Nat → Int32) => (stW kk a z.2.1 u z.2.2 : va_W)) eS.symm) hP) (vD_eq (congrArg (fun z : Int32 × (Nat → Int32) × (Nat → Nat → Int32) => (stW kk a z.2.1 u z.2.2 : va_W)) eS.symm) hD) hS (congrArg (fun z : Int32 × (Nat → Int32) × (Nat → Nat → Int32) => z.1) eS) rfl dX5_passMinutes_27
      | succ d ih =>
        intro i g1 rv1 hd eS H locs ls hP hD hS hl
        refine lv_iload_n hx hb dX5_passMinutes_11 rfl (lv_at hl 2 rfl) ?_
        refine lv_iload_n hx hb dX5_passMinutes_12 rfl (lv_at hl 1 rfl) ?_
        refine lv_icmp_ge (tgt := 26) hx hb dX5_passMinutes_13 (by decide) (fun c_13 => absurd c_13 (cl_gt hn (by omega) cl_b)) (fun c_13 => ?_)
        refine lv_aload_n hx hb dX5_passMinutes_16 rfl (lv_at hl 0 rfl) ?_
        refine k_goV (k_runV (rest := []) (As := []) hx hb hml hown hts hK hP hD hS hA hE hl.1 (c_X5_passMinute l G kk a g1 u rv1 ) vl_X5_117 rfl rfl rfl ⟨Nat.le_of_ble_eq_true rfl, Nat.le_of_ble_eq_true rfl, rfl, rfl⟩ [0, 1, 2, 3, 4, 5, 6, 7, 8] rfl st_mapC ⟨Nat.zero_le _, Nat.zero_le _⟩ rfl (Nat.le_of_ble_eq_true rfl) dX5_passMinutes_17) hP hD hS hA [0, 1, 2, 3, 4, 5, 6, 7, 8] st_mapC st_ads (fun H locs hP hD hS => ?_)
        replace hP : va_P G vwCl (stW kk a ((sX5_passMinute g1 u rv1).1) u ((sX5_passMinute g1 u rv1).2)) H := vP_eq (st_full) hP
        replace hD : va_D A (stW kk a ((sX5_passMinute g1 u rv1).1) u ((sX5_passMinute g1 u rv1).2)) := vD_eq (st_full) hD
        have eS : sX5_passMinutes g u rv n = (fun (z_1 : (Nat → Int32) × (Nat → Nat → Int32)) => (lp_X5_passMinutes_11 g u rv n d (i + 1) z_1.1 z_1.2)) (sX5_passMinute g1 u rv1) := eS
        generalize sX5_passMinute g1 u rv1 = z_1 at hP hD eS ⊢
        refine lv_iinc (v := (nI (i + 1))) (lv' := [(2, .int (nI (i + 1))), (0, .ref (a 0)), (1, .int n)]) hx hb dX5_passMinutes_20 hl (k := 2) rfl (nI_add i 1) (by decide) rfl (fun ls hl => ?_)
        refine lv_goto (tgt := 11) hx hb dX5_passMinutes_23 (by decide) ?_
        exact ih (i + 1) z_1.1 z_1.2 (by omega) eS _ _ ls hP hD hS (lv_sub hl [1, 2, 0] rfl)
    exact L_2 n.toNatClampNeg 0 g rv (Nat.zero_add _) eS _ _ ls hP hD hS (lv_sub hl [1, 2, 0] rfl)
  · have eS := eS.trans (if_pos c_4)
    refine lv_iconst (v := 0) hx hb dX5_passMinutes_7 (by decide) ?_
    exact fin_z hx hb hr hlocks hK (vP_eq (congrArg (fun z : Int32 × (Nat → Int32) × (Nat → Nat → Int32) => (stW kk a z.2.1 u z.2.2 : va_W)) eS.symm) hP) (vD_eq (congrArg (fun z : Int32 × (Nat → Int32) × (Nat → Nat → Int32) => (stW kk a z.2.1 u z.2.2 : va_W)) eS.symm) hD) hS (congrArg (fun z : Int32 × (Nat → Int32) × (Nat → Nat → Int32) => z.1) eS) rfl dX5_passMinutes_8
