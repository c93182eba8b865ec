theorem is_z (g4 u4 : Nat → Int32) (rv4 : Nat → Nat → Int32) (x : Int32) (k : Nat) (y : Int32) : zb (sX7_isSo g4 u4 rv4 x k y).1 := by
  unfold sX7_isSo
  simp only [oe, sX7_isSo_z_1]
  (repeat' split) <;> first | exact zb_0 | exact zb_1
theorem is_z0 (g4 u4 : Nat → Int32) (rv4 : Nat → Nat → Int32) (x y : Int32) : zb (sX7_isSo0 g4 u4 rv4 x y) := zb_0
theorem wg_h {x : Int32} {i : Nat} (hn : x = nI x.toNatClampNeg) (h : i < x.toNatClampNeg) : x - 1 - nI i = nI (x - 1 - nI i).toNatClampNeg := by
  refine tc_e (fun q => ?_)
  have hb := @cl_b x
  have hX : x.toInt = (x.toNatClampNeg : Int) := (congrArg Int32.toInt hn).trans (nI_toInt hb)
  have e1 : (1 : Int32).toInt = 1 := rfl
  have e0 : (0 : Int32).toInt = 0 := rfl
  have hi : (nI i).toInt = i := nI_toInt (by omega)
  have h1 : (x - 1).toInt = x.toInt - 1 := by
    rw [Int32.toInt_sub, e1, Int.bmod_eq_of_le] <;> omega
  have h2 : (x - 1 - nI i).toInt = x.toInt - 1 - i := by
    rw [Int32.toInt_sub, h1, hi, Int.bmod_eq_of_le] <;> omega
  rw [Int32.lt_iff_toInt_lt, h2, e0] at q
  omega
def sX7_doGroup_z_17 (g4 : Nat → Int32) (u4 : Nat → Int32) (rv4 : Nat → Nat → Int32) (x : Int32) (k_16 : Nat) (z_17 : Int32 × (Nat → Nat → Int32)) : Int32 × (Nat → Int32) × (Nat → Int32) × (Nat → Nat → Int32) :=
  (z_17.1, g4, u4, z_17.2)
def sX7_doGroup_z_14 (g4 : Nat → Int32) (u4 : Nat → Int32) (rv4 : Nat → Nat → Int32) (x : Int32) (k_13 : Nat) (z_14 : Int32 × (Nat → Nat → Int32)) : Int32 × (Nat → Int32) × (Nat → Int32) × (Nat → Nat → Int32) :=
  (z_14.1, g4, u4, z_14.2)
def sX7_doGroup_z_11 (g4 : Nat → Int32) (u4 : Nat → Int32) (rv4 : Nat → Nat → Int32) (x : Int32) (k_10 : Nat) (z_11 : Int32 × (Nat → Nat → Int32)) : Int32 × (Nat → Int32) × (Nat → Int32) × (Nat → Nat → Int32) :=
  (z_11.1, g4, u4, z_11.2)
def sX7_doGroup_z_8 (g4 : Nat → Int32) (u4 : Nat → Int32) (rv4 : Nat → Nat → Int32) (x : Int32) (z_8 : Int32 × (Nat → Nat → Int32)) : Int32 × (Nat → Int32) × (Nat → Int32) × (Nat → Nat → Int32) :=
  (if z_8.1 = 0 then (0, g4, u4, z_8.2) else (1, g4, u4, z_8.2))
def sX7_doGroup_z_7 (g4 : Nat → Int32) (u4 : Nat → Int32) (rv4 : Nat → Nat → Int32) (x : Int32) (z_7 : Int32 × (Nat → Int32)) : Int32 × (Nat → Int32) × (Nat → Int32) × (Nat → Nat → Int32) :=
  (if z_7.1 = 0 then (0, g4, z_7.2, rv4) else (1, g4, z_7.2, rv4))
def sX7_doGroup_z_6 (g4 : Nat → Int32) (u4 : Nat → Int32) (rv4 : Nat → Nat → Int32) (x : Int32) (z_6 : Int32 × (Nat → Int32) × (Nat → Nat → Int32)) : Int32 × (Nat → Int32) × (Nat → Int32) × (Nat → Nat → Int32) :=
  (if z_6.1 = 0 then (0, z_6.2.1, u4, z_6.2.2) else (1, z_6.2.1, u4, z_6.2.2))
def sX7_doGroup_z_5 (g4 : Nat → Int32) (u4 : Nat → Int32) (rv4 : Nat → Nat → Int32) (x : Int32) (z_5 : Int32 × (Nat → Int32) × (Nat → Nat → Int32)) : Int32 × (Nat → Int32) × (Nat → Int32) × (Nat → Nat → Int32) :=
  (if z_5.1 = 0 then (0, z_5.2.1, u4, z_5.2.2) else (1, z_5.2.1, u4, z_5.2.2))
def sX7_doGroup_z_1 (g4 : Nat → Int32) (u4 : Nat → Int32) (rv4 : Nat → Nat → Int32) (x : Int32) (z_1 : Int32 × (Nat → Nat → Int32)) : Int32 × (Nat → Int32) × (Nat → Int32) × (Nat → Nat → Int32) :=
  (if z_1.1 = 0 then (0, g4, u4, z_1.2) else (1, g4, u4, z_1.2))
def sX7_doGroup_z_2 (g4 : Nat → Int32) (u4 : Nat → Int32) (rv4 : Nat → Nat → Int32) (x : Int32) (z_2 : Int32 × (Nat → Nat → Int32)) : Int32 × (Nat → Int32) × (Nat → Int32) × (Nat → Nat → Int32) :=
  (if z_2.1 = 0 then (0, g4, u4, z_2.2) else (1, g4, u4, z_2.2))
def sX7_doGroup_z_3 (g4 : Nat → Int32) (u4 : Nat → Int32) (rv4 : Nat → Nat → Int32) (x : Int32) (z_3 : Int32 × (Nat → Nat → Int32)) : Int32 × (Nat → Int32) × (Nat → Int32) × (Nat → Nat → Int32) :=
  (if z_3.1 = 0 then (0, g4, u4, z_3.2) else (1, g4, u4, z_3.2))
def sX7_doGroup_z_4 (g4 : Nat → Int32) (u4 : Nat → Int32) (rv4 : Nat → Nat → Int32) (x : Int32) (z_4 : Int32 × (Nat → Nat → Int32)) : Int32 × (Nat → Int32) × (Nat → Int32) × (Nat → Nat → Int32) :=
  (if z_4.1 = 0 then (0, g4, u4, z_4.2) else (1, g4, u4, z_4.2))
def sX7_doGroup (g4 : Nat → Int32) (u4 : Nat → Int32) (rv4 : Nat → Nat → Int32) (x : Int32) : Int32 × (Nat → Int32) × (Nat → Int32) × (Nat → Nat → Int32) :=
  (if (x / 10000) = 1 then (if (x - x / 1000 * 1000) = 0 then (if (x - x / 1000 * 1000) = 100 then (sX7_doGroup_z_2 g4 u4 rv4 x (sX5_moveDoor g4 u4 rv4 ((x / 1000) - (x / 1000) / 10 * 10) 1)) else (sX7_doGroup_z_1 g4 u4 rv4 x (sX5_moveDoor g4 u4 rv4 ((x / 1000) - (x / 1000) / 10 * 10) 0))) else (if (x - x / 1000 * 1000) = 100 then (if (x - x / 1000 * 1000) = 100 then (sX7_doGroup_z_4 g4 u4 rv4 x (sX5_moveDoor g4 u4 rv4 ((x / 1000) - (x / 1000) / 10 * 10) 1)) else (sX7_doGroup_z_3 g4 u4 rv4 x (sX5_moveDoor g4 u4 rv4 ((x / 1000) - (x / 1000) / 10 * 10) 0))) else (0, g4, u4, rv4))) else (if (x / 10000) = 2 then (if ((x / 1000) - (x / 1000) / 10 * 10) = 0 then (sX7_doGroup_z_5 g4 u4 rv4 x (sX5_passMinutes g4 u4 rv4 (x - x / 1000 * 1000))) else (0, g4, u4, rv4)) else (if (x / 10000) = 3 then (if ((x / 1000) - (x / 1000) / 10 * 10) = 0 then (if (x - x / 1000 * 1000) = 0 then (sX7_doGroup_z_6 g4 u4 rv4 x (sX5_passMinutes g4 u4 rv4 15)) else (0, g4, u4, rv4)) else (0, g4, u4, rv4)) else (if (x / 10000) = 4 then (if ((x - x / 1000 * 1000) - (x - x / 1000 * 1000) / 10 * 10) = 0 then (sX7_doGroup_z_7 g4 u4 rv4 x (sX5_changeSetting g4 u4 rv4 ((x / 1000) - (x / 1000) / 10 * 10) ((x - x / 1000 * 1000) / 10))) else (0, g4, u4, rv4)) else (if (x / 10000) = 5 then (if ((x - x / 1000 * 1000) - (x - x / 1000 * 1000) / 10 * 10) = 0 then (sX7_doGroup_z_8 g4 u4 rv4 x (sX5_takeGoods g4 u4 rv4 ((x / 1000) - (x / 1000) / 10 * 10) ((x - x / 1000 * 1000) / 10))) else (0, g4, u4, rv4)) else (if (x / 10000) = 6 then (oe (sX5_roomAt g4 u4 rv4 ((x / 1000) - (x / 1000) / 10 * 10)) ((sX7_isSo0 g4 u4 rv4 (x / 10000) (x - x / 1000 * 1000)), g4, u4, rv4) (fun k_10 => (sX7_doGroup_z_11 g4 u4 rv4 x k_10 (sX7_isSo g4 u4 rv4 (x / 10000) k_10 (x - x / 1000 * 1000))))) else (if (x / 10000) = 7 then (oe (sX5_roomAt g4 u4 rv4 ((x / 1000) - (x / 1000) / 10 * 10)) ((sX7_isSo0 g4 u4 rv4 (x / 10000) (x - x / 1000 * 1000)), g4, u4, rv4) (fun k_13 => (sX7_doGroup_z_14 g4 u4 rv4 x k_13 (sX7_isSo g4 u4 rv4 (x / 10000) k_13 (x - x / 1000 * 1000))))) else (if (x / 10000) = 8 then (if ((x / 1000) - (x / 1000) / 10 * 10) = 0 then (if 100 ≤ (x - x / 1000 * 1000) then (0, g4, u4, rv4) else (if (x - x / 1000 * 1000) < (g4 3) then (0, g4, u4, rv4) else (1, g4, u4, rv4))) else (0, g4, u4, rv4)) else (oe (sX5_roomAt g4 u4 rv4 ((x / 1000) - (x / 1000) / 10 * 10)) ((sX7_isSo0 g4 u4 rv4 (x / 10000) (x - x / 1000 * 1000)), g4, u4, rv4) (fun k_16 => (sX7_doGroup_z_17 g4 u4 rv4 x k_16 (sX7_isSo g4 u4 rv4 (x / 10000) k_16 (x - x / 1000 * 1000)))))))))))))
set_option maxRecDepth 100000 in
set_option maxHeartbeats 4000000 in
theorem c_X7_doGroup (l : Launch) (G : va_G) (kk : Nat → ClassId) (h : Nat) (ad : Nat → Nat → Nat) (g4 : Nat → Int32) (u4 : Nat → Int32) (rv4 : Nat → Nat → Int32) (x : Int32)  : CC l yX7_doGroup cX7_doGroup 4 (some .boolean) (rmO 5 120) [.ref h, .int x] G kk ([(h, .inr (7, mrG ad))] ++ (stW kk (ad 4) g4 u4 rv4)) (QI G kk ([(h, .inr (7, mrG ad))] ++ (stW kk (ad 4) ((sX7_doGroup g4 u4 rv4 x).2.1) ((sX7_doGroup g4 u4 rv4 x).2.2.1) ((sX7_doGroup g4 u4 rv4 x).2.2.2))) ((sX7_doGroup g4 u4 rv4 x).1)) := by
  refine cc_start (by decide +kernel) (Nat.le_of_ble_eq_true rfl) ?_
  intro p e s m below meth c A ls hx hb hr hml hown hts hlocks hA hE hK hP hD hS hl
  have hown : s.vm.findClass RX7 = some m.cls := hown
  have hl : lv_has ls 4 [(0, .ref h), (1, .int x)] := hl
  have eS : sX7_doGroup g4 u4 rv4 x = sX7_doGroup g4 u4 rv4 x := rfl
  refine lv_iload_n hx hb dX7_doGroup_0 rfl (lv_at hl 1 rfl) ?_
  refine lv_sipush (v := 1000) hx hb dX7_doGroup_1 (by decide) ?_
  refine lv_idiv hx hb dX7_doGroup_4 (by decide) ?_
  refine lv_bipush (v := 10) hx hb dX7_doGroup_5 (by decide) ?_
  refine lv_irem hx hb dX7_doGroup_7 (by decide) ?_
  refine lv_istore_n (lv' := [(2, .int ((x / 1000) - (x / 1000) / 10 * 10)), (0, .ref h), (1, .int x)]) hx hb dX7_doGroup_8 rfl hl (by decide) rfl (fun ls hl => ?_)
  refine lv_iload_n hx hb dX7_doGroup_9 rfl (lv_at hl 2 rfl) ?_
  refine lv_sipush (v := 1000) hx hb dX7_doGroup_10 (by decide) ?_
  refine lv_irem hx hb dX7_doGroup_13 (by decide) ?_
  refine lv_istore_n (lv' := [(3, .int (x - x / 1000 * 1000)), (2, .int ((x / 1000) - (x / 1000) / 10 * 10)), (0, .ref h), (1, .int x)]) hx hb dX7_doGroup_14 rfl hl (by decide) rfl (fun ls hl => ?_)
  refine lv_iload_n hx hb dX7_doGroup_15 rfl (lv_at hl 3 rfl) ?_
  refine lv_sipush (v := 10000) hx hb dX7_doGroup_16 (by decide) ?_
  refine lv_idiv hx hb dX7_doGroup_19 (by decide) ?_
  refine (Decidable.em ((x / 10000) = 1)).elim (fun c_20_0 => ?_) (fun c_20_0 => ?_)
  · have eS := eS.trans (if_pos c_20_0)
    refine lv_tableIn (tgt := 68) hx hb dX7_doGroup_20 (by rw [c_20_0]; decide) (by rw [c_20_0]; decide) (by rw [c_20_0]; rfl) (by decide) ?_
    refine lv_iload_n hx hb dX7_doGroup_68 rfl (lv_at hl 0 rfl) ?_
    refine lv_if_eq (tgt := 78) hx hb dX7_doGroup_69 (by decide) (fun c_69 => ?_) (fun c_69 => ?_)
    · have eS := eS.trans (if_pos c_69)
      refine lv_aload_n hx hb dX7_doGroup_78 rfl (lv_at hl 2 rfl) ?_
      refine r_get (v := .ref ((ad 4) 0)) hx hb hts hown hK hP fl_X7_26 0 rfl rfl dX7_doGroup_79 ?_
      refine lv_iload_n hx hb dX7_doGroup_82 rfl (lv_at hl 1 rfl) ?_
      refine lv_iload_n hx hb dX7_doGroup_83 rfl (lv_at hl 0 rfl) ?_
      refine lv_bipush (v := 100) hx hb dX7_doGroup_84 (by decide) ?_
      refine lv_icmp_ne (tgt := 93) hx hb dX7_doGroup_86 (by decide) (fun c_86 => ?_) (fun c_86 => ?_)
      · have eS := eS.trans (if_neg c_86)
        refine lv_iconst (v := 0) hx hb dX7_doGroup_93 (by decide) ?_
        refine k_goI (k_runV (rest := []) (As := [.int ((x / 1000) - (x / 1000) / 10 * 10), .int 0]) hx hb hml hown hts hK hP hD hS hA hE hl.1 (c_X5_moveDoor l G kk (ad 4) g4 u4 rv4 ((x / 1000) - (x / 1000) / 10 * 10) 0 (by first | exact zb_0 | exact zb_1)) vl_X7_116 rfl rfl rfl ⟨Nat.le_of_ble_eq_true rfl, Nat.le_of_ble_eq_true rfl, rfl, rfl⟩ (List.range' 1 9) (by decide +kernel) (skip_map (m := 1) (n := 0) (sg_Ce st_len) rfl) ⟨Nat.zero_le _, Nat.zero_le _⟩ rfl (Nat.le_of_ble_eq_true rfl) dX7_doGroup_94) hP hD hS hA (List.range' 1 9) (skip_map (m := 1) (n := 0) (sg_Ce st_len) rfl) st_ads (fun H locs hP hD hS => ?_)
        replace hP : va_P G vwCl ([(h, .inr (7, mrG ad))] ++ (stW kk (ad 4) g4 u4 ((sX5_moveDoor g4 u4 rv4 ((x / 1000) - (x / 1000) / 10 * 10) 0).2))) H := vP_eq2 hP (skip_set (m := 1) (n := 0) (sg_Se st_len st_len) rfl)
        replace hD : va_D A ([(h, .inr (7, mrG ad))] ++ (stW kk (ad 4) g4 u4 ((sX5_moveDoor g4 u4 rv4 ((x / 1000) - (x / 1000) / 10 * 10) 0).2))) := vD_eq2 hD (skip_set (m := 1) (n := 0) (sg_Se st_len st_len) rfl)
        have eS : sX7_doGroup g4 u4 rv4 x = sX7_doGroup_z_1 g4 u4 rv4 x (sX5_moveDoor g4 u4 rv4 ((x / 1000) - (x / 1000) / 10 * 10) 0) := eS
        have hz_1 := md_z g4 u4 rv4 ((x / 1000) - (x / 1000) / 10 * 10) 0
        generalize sX5_moveDoor g4 u4 rv4 ((x / 1000) - (x / 1000) / 10 * 10) 0 = z_1 at hP hD eS hz_1 ⊢
        refine lv_if_eq (tgt := 104) hx hb dX7_doGroup_97 (by decide) (fun c_97 => ?_) (fun c_97 => ?_)
        · have eS := eS.trans (if_pos c_97)
          refine lv_iconst (v := 0) hx hb dX7_doGroup_104 (by decide) ?_
          exact fin_z hx hb hr hlocks hK (vP_eq (congrArg (fun z : Int32 × (Nat → Int32) × (Nat → Int32) × (Nat → Nat → Int32) => ([(h, .inr (7, mrG ad))] ++ (stW kk (ad 4) z.2.1 z.2.2.1 z.2.2.2) : va_W)) eS.symm) hP) (vD_eq (congrArg (fun z : Int32 × (Nat → Int32) × (Nat → Int32) × (Nat → Nat → Int32) => ([(h, .inr (7, mrG ad))] ++ (stW kk (ad 4) z.2.1 z.2.2.1 z.2.2.2) : va_W)) eS.symm) hD) hS (congrArg (fun z : Int32 × (Nat → Int32) × (Nat → Int32) × (Nat → Nat → Int32) => z.1) eS) rfl dX7_doGroup_105
        · have eS := eS.trans (if_neg c_97)
          refine lv_iconst (v := 1) hx hb dX7_doGroup_100 (by decide) ?_
          refine lv_goto (tgt := 105) hx hb dX7_doGroup_101 (by decide) ?_
          exact fin_z hx hb hr hlocks hK (vP_eq (congrArg (fun z : Int32 × (Nat → Int32) × (Nat → Int32) × (Nat → Nat → Int32) => ([(h, .inr (7, mrG ad))] ++ (stW kk (ad 4) z.2.1 z.2.2.1 z.2.2.2) : va_W)) eS.symm) hP) (vD_eq (congrArg (fun z : Int32 × (Nat → Int32) × (Nat → Int32) × (Nat → Nat → Int32) => ([(h, .inr (7, mrG ad))] ++ (stW kk (ad 4) z.2.1 z.2.2.1 z.2.2.2) : va_W)) eS.symm) hD) hS (congrArg (fun z : Int32 × (Nat → Int32) × (Nat → Int32) × (Nat → Nat → Int32) => z.1) eS) rfl dX7_doGroup_105
      · have eS := eS.trans (if_pos c_86)
        refine lv_iconst (v := 1) hx hb dX7_doGroup_89 (by decide) ?_
        refine lv_goto (tgt := 94) hx hb dX7_doGroup_90 (by decide) ?_
        refine k_goI (k_runV (rest := []) (As := [.int ((x / 1000) - (x / 1000) / 10 * 10), .int 1]) hx hb hml hown hts hK hP hD hS hA hE hl.1 (c_X5_moveDoor l G kk (ad 4) g4 u4 rv4 ((x / 1000) - (x / 1000) / 10 * 10) 1 (by first | exact zb_0 | exact zb_1)) vl_X7_116 rfl rfl rfl ⟨Nat.le_of_ble_eq_true rfl, Nat.le_of_ble_eq_true rfl, rfl, rfl⟩ (List.range' 1 9) (by decide +kernel) (skip_map (m := 1) (n := 0) (sg_Ce st_len) rfl) ⟨Nat.zero_le _, Nat.zero_le _⟩ rfl (Nat.le_of_ble_eq_true rfl) dX7_doGroup_94) hP hD hS hA (List.range' 1 9) (skip_map (m := 1) (n := 0) (sg_Ce st_len) rfl) st_ads (fun H locs hP hD hS => ?_)
        replace hP : va_P G vwCl ([(h, .inr (7, mrG ad))] ++ (stW kk (ad 4) g4 u4 ((sX5_moveDoor g4 u4 rv4 ((x / 1000) - (x / 1000) / 10 * 10) 1).2))) H := vP_eq2 hP (skip_set (m := 1) (n := 0) (sg_Se st_len st_len) rfl)
        replace hD : va_D A ([(h, .inr (7, mrG ad))] ++ (stW kk (ad 4) g4 u4 ((sX5_moveDoor g4 u4 rv4 ((x / 1000) - (x / 1000) / 10 * 10) 1).2))) := vD_eq2 hD (skip_set (m := 1) (n := 0) (sg_Se st_len st_len) rfl)
        have eS : sX7_doGroup g4 u4 rv4 x = sX7_doGroup_z_2 g4 u4 rv4 x (sX5_moveDoor g4 u4 rv4 ((x / 1000) - (x / 1000) / 10 * 10) 1) := eS
        have hz_2 := md_z g4 u4 rv4 ((x / 1000) - (x / 1000) / 10 * 10) 1
        generalize sX5_moveDoor g4 u4 rv4 ((x / 1000) - (x / 1000) / 10 * 10) 1 = z_2 at hP hD eS hz_2 ⊢
        refine lv_if_eq (tgt := 104) hx hb dX7_doGroup_97 (by decide) (fun c_97 => ?_) (fun c_97 => ?_)
        · have eS := eS.trans (if_pos c_97)
          refine lv_iconst (v := 0) hx hb dX7_doGroup_104 (by decide) ?_
          exact fin_z hx hb hr hlocks hK (vP_eq (congrArg (fun z : Int32 × (Nat → Int32) × (Nat → Int32) × (Nat → Nat → Int32) => ([(h, .inr (7, mrG ad))] ++ (stW kk (ad 4) z.2.1 z.2.2.1 z.2.2.2) : va_W)) eS.symm) hP) (vD_eq (congrArg (fun z : Int32 × (Nat → Int32) × (Nat → Int32) × (Nat → Nat → Int32) => ([(h, .inr (7, mrG ad))] ++ (stW kk (ad 4) z.2.1 z.2.2.1 z.2.2.2) : va_W)) eS.symm) hD) hS (congrArg (fun z : Int32 × (Nat → Int32) × (Nat → Int32) × (Nat → Nat → Int32) => z.1) eS) rfl dX7_doGroup_105
        · have eS := eS.trans (if_neg c_97)
          refine lv_iconst (v := 1) hx hb dX7_doGroup_100 (by decide) ?_
          refine lv_goto (tgt := 105) hx hb dX7_doGroup_101 (by decide) ?_
          exact fin_z hx hb hr hlocks hK (vP_eq (congrArg (fun z : Int32 × (Nat → Int32) × (Nat → Int32) × (Nat → Nat → Int32) => ([(h, .inr (7, mrG ad))] ++ (stW kk (ad 4) z.2.1 z.2.2.1 z.2.2.2) : va_W)) eS.symm) hP) (vD_eq (congrArg (fun z : Int32 × (Nat → Int32) × (Nat → Int32) × (Nat → Nat → Int32) => ([(h, .inr (7, mrG ad))] ++ (stW kk (ad 4) z.2.1 z.2.2.1 z.2.2.2) : va_W)) eS.symm) hD) hS (congrArg (fun z : Int32 × (Nat → Int32) × (Nat → Int32) × (Nat → Nat → Int32) => z.1) eS) rfl dX7_doGroup_105
    · have eS := eS.trans (if_neg c_69)
      refine lv_iload_n hx hb dX7_doGroup_72 rfl (lv_at hl 0 rfl) ?_
      refine lv_bipush (v := 100) hx hb dX7_doGroup_73 (by decide) ?_
      refine lv_icmp_ne (tgt := 104) hx hb dX7_doGroup_75 (by decide) (fun c_75 => ?_) (fun c_75 => ?_)
      · have eS := eS.trans (if_neg c_75)
        refine lv_iconst (v := 0) hx hb dX7_doGroup_104 (by decide) ?_
        exact fin_z hx hb hr hlocks hK (vP_eq (congrArg (fun z : Int32 × (Nat → Int32) × (Nat → Int32) × (Nat → Nat → Int32) => ([(h, .inr (7, mrG ad))] ++ (stW kk (ad 4) z.2.1 z.2.2.1 z.2.2.2) : va_W)) eS.symm) hP) (vD_eq (congrArg (fun z : Int32 × (Nat → Int32) × (Nat → Int32) × (Nat → Nat → Int32) => ([(h, .inr (7, mrG ad))] ++ (stW kk (ad 4) z.2.1 z.2.2.1 z.2.2.2) : va_W)) eS.symm) hD) hS (congrArg (fun z : Int32 × (Nat → Int32) × (Nat → Int32) × (Nat → Nat → Int32) => z.1) eS) rfl dX7_doGroup_105
      · have eS := eS.trans (if_pos c_75)
        refine lv_aload_n hx hb dX7_doGroup_78 rfl (lv_at hl 2 rfl) ?_
        refine r_get (v := .ref ((ad 4) 0)) hx hb hts hown hK hP fl_X7_26 0 rfl rfl dX7_doGroup_79 ?_
        refine lv_iload_n hx hb dX7_doGroup_82 rfl (lv_at hl 1 rfl) ?_
        refine lv_iload_n hx hb dX7_doGroup_83 rfl (lv_at hl 0 rfl) ?_
        refine lv_bipush (v := 100) hx hb dX7_doGroup_84 (by decide) ?_
        refine lv_icmp_ne (tgt := 93) hx hb dX7_doGroup_86 (by decide) (fun c_86 => ?_) (fun c_86 => ?_)
        · have eS := eS.trans (if_neg c_86)
          refine lv_iconst (v := 0) hx hb dX7_doGroup_93 (by decide) ?_
          refine k_goI (k_runV (rest := []) (As := [.int ((x / 1000) - (x / 1000) / 10 * 10), .int 0]) hx hb hml hown hts hK hP hD hS hA hE hl.1 (c_X5_moveDoor l G kk (ad 4) g4 u4 rv4 ((x / 1000) - (x / 1000) / 10 * 10) 0 (by first | exact zb_0 | exact zb_1)) vl_X7_116 rfl rfl rfl ⟨Nat.le_of_ble_eq_true rfl, Nat.le_of_ble_eq_true rfl, rfl, rfl⟩ (List.range' 1 9) (by decide +kernel) (skip_map (m := 1) (n := 0) (sg_Ce st_len) rfl) ⟨Nat.zero_le _, Nat.zero_le _⟩ rfl (Nat.le_of_ble_eq_true rfl) dX7_doGroup_94) hP hD hS hA (List.range' 1 9) (skip_map (m := 1) (n := 0) (sg_Ce st_len) rfl) st_ads (fun H locs hP hD hS => ?_)
          replace hP : va_P G vwCl ([(h, .inr (7, mrG ad))] ++ (stW kk (ad 4) g4 u4 ((sX5_moveDoor g4 u4 rv4 ((x / 1000) - (x / 1000) / 10 * 10) 0).2))) H := vP_eq2 hP (skip_set (m := 1) (n := 0) (sg_Se st_len st_len) rfl)
          replace hD : va_D A ([(h, .inr (7, mrG ad))] ++ (stW kk (ad 4) g4 u4 ((sX5_moveDoor g4 u4 rv4 ((x / 1000) - (x / 1000) / 10 * 10) 0).2))) := vD_eq2 hD (skip_set (m := 1) (n := 0) (sg_Se st_len st_len) rfl)
          have eS : sX7_doGroup g4 u4 rv4 x = sX7_doGroup_z_3 g4 u4 rv4 x (sX5_moveDoor g4 u4 rv4 ((x / 1000) - (x / 1000) / 10 * 10) 0) := eS
          have hz_3 := md_z g4 u4 rv4 ((x / 1000) - (x / 1000) / 10 * 10) 0
          generalize sX5_moveDoor g4 u4 rv4 ((x / 1000) - (x / 1000) / 10 * 10) 0 = z_3 at hP hD eS hz_3 ⊢
          refine lv_if_eq (tgt := 104) hx hb dX7_doGroup_97 (by decide) (fun c_97 => ?_) (fun c_97 => ?_)
          · have eS := eS.trans (if_pos c_97)
            refine lv_iconst (v := 0) hx hb dX7_doGroup_104 (by decide) ?_
            exact fin_z hx hb hr hlocks hK (vP_eq (congrArg (fun z : Int32 × (Nat → Int32) × (Nat → Int32) × (Nat → Nat → Int32) => ([(h, .inr (7, mrG ad))] ++ (stW kk (ad 4) z.2.1 z.2.2.1 z.2.2.2) : va_W)) eS.symm) hP) (vD_eq (congrArg (fun z : Int32 × (Nat → Int32) × (Nat → Int32) × (Nat → Nat → Int32) => ([(h, .inr (7, mrG ad))] ++ (stW kk (ad 4) z.2.1 z.2.2.1 z.2.2.2) : va_W)) eS.symm) hD) hS (congrArg (fun z : Int32 × (Nat → Int32) × (Nat → Int32) × (Nat → Nat → Int32) => z.1) eS) rfl dX7_doGroup_105
          · have eS := eS.trans (if_neg c_97)
            refine lv_iconst (v := 1) hx hb dX7_doGroup_100 (by decide) ?_
            refine lv_goto (tgt := 105) hx hb dX7_doGroup_101 (by decide) ?_
            exact fin_z hx hb hr hlocks hK (vP_eq (congrArg (fun z : Int32 × (Nat → Int32) × (Nat → Int32) × (Nat → Nat → Int32) => ([(h, .inr (7, mrG ad))] ++ (stW kk (ad 4) z.2.1 z.2.2.1 z.2.2.2) : va_W)) eS.symm) hP) (vD_eq (congrArg (fun z : Int32 × (Nat → Int32) × (Nat → Int32) × (Nat → Nat → Int32) => ([(h, .inr (7, mrG ad))] ++ (stW kk (ad 4) z.2.1 z.2.2.1 z.2.2.2) : va_W)) eS.symm) hD) hS (congrArg (fun z : Int32 × (Nat → Int32) × (Nat → Int32) × (Nat → Nat → Int32) => z.1) eS) rfl dX7_doGroup_105
        · have eS := eS.trans (if_pos c_86)
          refine lv_iconst (v := 1) hx hb dX7_doGroup_89 (by decide) ?_
          refine lv_goto (tgt := 94) hx hb dX7_doGroup_90 (by decide) ?_
          refine k_goI (k_runV (rest := []) (As := [.int ((x / 1000) - (x / 1000) / 10 * 10), .int 1]) hx hb hml hown hts hK hP hD hS hA hE hl.1 (c_X5_moveDoor l G kk (ad 4) g4 u4 rv4 ((x / 1000) - (x / 1000) / 10 * 10) 1 (by first | exact zb_0 | exact zb_1)) vl_X7_116 rfl rfl rfl ⟨Nat.le_of_ble_eq_true rfl, Nat.le_of_ble_eq_true rfl, rfl, rfl⟩ (List.range' 1 9) (by decide +kernel) (skip_map (m := 1) (n := 0) (sg_Ce st_len) rfl) ⟨Nat.zero_le _, Nat.zero_le _⟩ rfl (Nat.le_of_ble_eq_true rfl) dX7_doGroup_94) hP hD hS hA (List.range' 1 9) (skip_map (m := 1) (n := 0) (sg_Ce st_len) rfl) st_ads (fun H locs hP hD hS => ?_)
          replace hP : va_P G vwCl ([(h, .inr (7, mrG ad))] ++ (stW kk (ad 4) g4 u4 ((sX5_moveDoor g4 u4 rv4 ((x / 1000) - (x / 1000) / 10 * 10) 1).2))) H := vP_eq2 hP (skip_set (m := 1) (n := 0) (sg_Se st_len st_len) rfl)
          replace hD : va_D A ([(h, .inr (7, mrG ad))] ++ (stW kk (ad 4) g4 u4 ((sX5_moveDoor g4 u4 rv4 ((x / 1000) - (x / 1000) / 10 * 10) 1).2))) := vD_eq2 hD (skip_set (m := 1) (n := 0) (sg_Se st_len st_len) rfl)
          have eS : sX7_doGroup g4 u4 rv4 x = sX7_doGroup_z_4 g4 u4 rv4 x (sX5_moveDoor g4 u4 rv4 ((x / 1000) - (x / 1000) / 10 * 10) 1) := eS
          have hz_4 := md_z g4 u4 rv4 ((x / 1000) - (x / 1000) / 10 * 10) 1
          generalize sX5_moveDoor g4 u4 rv4 ((x / 1000) - (x / 1000) / 10 * 10) 1 = z_4 at hP hD eS hz_4 ⊢
          refine lv_if_eq (tgt := 104) hx hb dX7_doGroup_97 (by decide) (fun c_97 => ?_) (fun c_97 => ?_)
          · have eS := eS.trans (if_pos c_97)
            refine lv_iconst (v := 0) hx hb dX7_doGroup_104 (by decide) ?_
            exact fin_z hx hb hr hlocks hK (vP_eq (congrArg (fun z : Int32 × (Nat → Int32) × (Nat → Int32) × (Nat → Nat → Int32) => ([(h, .inr (7, mrG ad))] ++ (stW kk (ad 4) z.2.1 z.2.2.1 z.2.2.2) : va_W)) eS.symm) hP) (vD_eq (congrArg (fun z : Int32 × (Nat → Int32) × (Nat → Int32) × (Nat → Nat → Int32) => ([(h, .inr (7, mrG ad))] ++ (stW kk (ad 4) z.2.1 z.2.2.1 z.2.2.2) : va_W)) eS.symm) hD) hS (congrArg (fun z : Int32 × (Nat → Int32) × (Nat → Int32) × (Nat → Nat → Int32) => z.1) eS) rfl dX7_doGroup_105
          · have eS := eS.trans (if_neg c_97)
            refine lv_iconst (v := 1) hx hb dX7_doGroup_100 (by decide) ?_
            refine lv_goto (tgt := 105) hx hb dX7_doGroup_101 (by decide) ?_
            exact fin_z hx hb hr hlocks hK (vP_eq (congrArg (fun z : Int32 × (Nat → Int32) × (Nat → Int32) × (Nat → Nat → Int32) => ([(h, .inr (7, mrG ad))] ++ (stW kk (ad 4) z.2.1 z.2.2.1 z.2.2.2) : va_W)) eS.symm) hP) (vD_eq (congrArg (fun z : Int32 × (Nat → Int32) × (Nat → Int32) × (Nat → Nat → Int32) => ([(h, .inr (7, mrG ad))] ++ (stW kk (ad 4) z.2.1 z.2.2.1 z.2.2.2) : va_W)) eS.symm) hD) hS (congrArg (fun z : Int32 × (Nat → Int32) × (Nat → Int32) × (Nat → Nat → Int32) => z.1) eS) rfl dX7_doGroup_105
  have eS := eS.trans (if_neg c_20_0)
  refine (Decidable.em ((x / 10000) = 2)).elim (fun c_20_1 => ?_) (fun c_20_1 => ?_)
  · have eS := eS.trans (if_pos c_20_1)
    refine lv_tableIn (tgt := 106) hx hb dX7_doGroup_20 (by rw [c_20_1]; decide) (by rw [c_20_1]; decide) (by rw [c_20_1]; rfl) (by decide) ?_
    refine lv_iload_n hx hb dX7_doGroup_106 rfl (lv_at hl 1 rfl) ?_
    refine lv_if_ne (tgt := 125) hx hb dX7_doGroup_107 (by decide) (fun c_107 => ?_) (fun c_107 => ?_)
    · have eS := eS.trans (if_neg c_107)
      refine lv_iconst (v := 0) hx hb dX7_doGroup_125 (by decide) ?_
      exact fin_z hx hb hr hlocks hK (vP_eq (congrArg (fun z : Int32 × (Nat → Int32) × (Nat → Int32) × (Nat → Nat → Int32) => ([(h, .inr (7, mrG ad))] ++ (stW kk (ad 4) z.2.1 z.2.2.1 z.2.2.2) : va_W)) eS.symm) hP) (vD_eq (congrArg (fun z : Int32 × (Nat → Int32) × (Nat → Int32) × (Nat → Nat → Int32) => ([(h, .inr (7, mrG ad))] ++ (stW kk (ad 4) z.2.1 z.2.2.1 z.2.2.2) : va_W)) eS.symm) hD) hS (congrArg (fun z : Int32 × (Nat → Int32) × (Nat → Int32) × (Nat → Nat → Int32) => z.1) eS) rfl dX7_doGroup_126
    · have eS := eS.trans (if_pos c_107)
      refine lv_aload_n hx hb dX7_doGroup_110 rfl (lv_at hl 2 rfl) ?_
      refine r_get (v := .ref ((ad 4) 0)) hx hb hts hown hK hP fl_X7_26 0 rfl rfl dX7_doGroup_111 ?_
      refine lv_iload_n hx hb dX7_doGroup_114 rfl (lv_at hl 0 rfl) ?_
      refine k_goI (k_runV (rest := []) (As := [.int (x - x / 1000 * 1000)]) hx hb hml hown hts hK hP hD hS hA hE hl.1 (c_X5_passMinutes l G kk (ad 4) g4 u4 rv4 (x - x / 1000 * 1000) ) vl_X7_120 rfl rfl rfl ⟨Nat.le_of_ble_eq_true rfl, Nat.le_of_ble_eq_true rfl, rfl, rfl⟩ (List.range' 1 9) (by decide +kernel) (skip_map (m := 1) (n := 0) (sg_Ce st_len) rfl) ⟨Nat.zero_le _, Nat.zero_le _⟩ rfl (Nat.le_of_ble_eq_true rfl) dX7_doGroup_115) hP hD hS hA (List.range' 1 9) (skip_map (m := 1) (n := 0) (sg_Ce st_len) rfl) st_ads (fun H locs hP hD hS => ?_)
      replace hP : va_P G vwCl ([(h, .inr (7, mrG ad))] ++ (stW kk (ad 4) ((sX5_passMinutes g4 u4 rv4 (x - x / 1000 * 1000)).2.1) u4 ((sX5_passMinutes g4 u4 rv4 (x - x / 1000 * 1000)).2.2))) H := vP_eq2 hP (skip_set (m := 1) (n := 0) (sg_Se st_len st_len) rfl)
      replace hD : va_D A ([(h, .inr (7, mrG ad))] ++ (stW kk (ad 4) ((sX5_passMinutes g4 u4 rv4 (x - x / 1000 * 1000)).2.1) u4 ((sX5_passMinutes g4 u4 rv4 (x - x / 1000 * 1000)).2.2))) := vD_eq2 hD (skip_set (m := 1) (n := 0) (sg_Se st_len st_len) rfl)
      have eS : sX7_doGroup g4 u4 rv4 x = sX7_doGroup_z_5 g4 u4 rv4 x (sX5_passMinutes g4 u4 rv4 (x - x / 1000 * 1000)) := eS
      have hz_5 := pm_z g4 u4 rv4 (x - x / 1000 * 1000)
      generalize sX5_passMinutes g4 u4 rv4 (x - x / 1000 * 1000) = z_5 at hP hD eS hz_5 ⊢
      refine lv_if_eq (tgt := 125) hx hb dX7_doGroup_118 (by decide) (fun c_118 => ?_) (fun c_118 => ?_)
      · have eS := eS.trans (if_pos c_118)
        refine lv_iconst (v := 0) hx hb dX7_doGroup_125 (by decide) ?_
        exact fin_z hx hb hr hlocks hK (vP_eq (congrArg (fun z : Int32 × (Nat → Int32) × (Nat → Int32) × (Nat → Nat → Int32) => ([(h, .inr (7, mrG ad))] ++ (stW kk (ad 4) z.2.1 z.2.2.1 z.2.2.2) : va_W)) eS.symm) hP) (vD_eq (congrArg (fun z : Int32 × (Nat → Int32) × (Nat → Int32) × (Nat → Nat → Int32) => ([(h, .inr (7, mrG ad))] ++ (stW kk (ad 4) z.2.1 z.2.2.1 z.2.2.2) : va_W)) eS.symm) hD) hS (congrArg (fun z : Int32 × (Nat → Int32) × (Nat → Int32) × (Nat → Nat → Int32) => z.1) eS) rfl dX7_doGroup_126
      · have eS := eS.trans (if_neg c_118)
        refine lv_iconst (v := 1) hx hb dX7_doGroup_121 (by decide) ?_
        refine lv_goto (tgt := 126) hx hb dX7_doGroup_122 (by decide) ?_
        exact fin_z hx hb hr hlocks hK (vP_eq (congrArg (fun z : Int32 × (Nat → Int32) × (Nat → Int32) × (Nat → Nat → Int32) => ([(h, .inr (7, mrG ad))] ++ (stW kk (ad 4) z.2.1 z.2.2.1 z.2.2.2) : va_W)) eS.symm) hP) (vD_eq (congrArg (fun z : Int32 × (Nat → Int32) × (Nat → Int32) × (Nat → Nat → Int32) => ([(h, .inr (7, mrG ad))] ++ (stW kk (ad 4) z.2.1 z.2.2.1 z.2.2.2) : va_W)) eS.symm) hD) hS (congrArg (fun z : Int32 × (Nat → Int32) × (Nat → Int32) × (Nat → Nat → Int32) => z.1) eS) rfl dX7_doGroup_126
  have eS := eS.trans (if_neg c_20_1)
  refine (Decidable.em ((x / 10000) = 3)).elim (fun c_20_2 => ?_) (fun c_20_2 => ?_)
  · have eS := eS.trans (if_pos c_20_2)
    refine lv_tableIn (tgt := 127) hx hb dX7_doGroup_20 (by rw [c_20_2]; decide) (by rw [c_20_2]; decide) (by rw [c_20_2]; rfl) (by decide) ?_
    refine lv_iload_n hx hb dX7_doGroup_127 rfl (lv_at hl 1 rfl) ?_
    refine lv_if_ne (tgt := 151) hx hb dX7_doGroup_128 (by decide) (fun c_128 => ?_) (fun c_128 => ?_)
    · have eS := eS.trans (if_neg c_128)
      refine lv_iconst (v := 0) hx hb dX7_doGroup_151 (by decide) ?_
      exact fin_z hx hb hr hlocks hK (vP_eq (congrArg (fun z : Int32 × (Nat → Int32) × (Nat → Int32) × (Nat → Nat → Int32) => ([(h, .inr (7, mrG ad))] ++ (stW kk (ad 4) z.2.1 z.2.2.1 z.2.2.2) : va_W)) eS.symm) hP) (vD_eq (congrArg (fun z : Int32 × (Nat → Int32) × (Nat → Int32) × (Nat → Nat → Int32) => ([(h, .inr (7, mrG ad))] ++ (stW kk (ad 4) z.2.1 z.2.2.1 z.2.2.2) : va_W)) eS.symm) hD) hS (congrArg (fun z : Int32 × (Nat → Int32) × (Nat → Int32) × (Nat → Nat → Int32) => z.1) eS) rfl dX7_doGroup_152
    · have eS := eS.trans (if_pos c_128)
      refine lv_iload_n hx hb dX7_doGroup_131 rfl (lv_at hl 0 rfl) ?_
      refine lv_if_ne (tgt := 151) hx hb dX7_doGroup_132 (by decide) (fun c_132 => ?_) (fun c_132 => ?_)
      · have eS := eS.trans (if_neg c_132)
        refine lv_iconst (v := 0) hx hb dX7_doGroup_151 (by decide) ?_
        exact fin_z hx hb hr hlocks hK (vP_eq (congrArg (fun z : Int32 × (Nat → Int32) × (Nat → Int32) × (Nat → Nat → Int32) => ([(h, .inr (7, mrG ad))] ++ (stW kk (ad 4) z.2.1 z.2.2.1 z.2.2.2) : va_W)) eS.symm) hP) (vD_eq (congrArg (fun z : Int32 × (Nat → Int32) × (Nat → Int32) × (Nat → Nat → Int32) => ([(h, .inr (7, mrG ad))] ++ (stW kk (ad 4) z.2.1 z.2.2.1 z.2.2.2) : va_W)) eS.symm) hD) hS (congrArg (fun z : Int32 × (Nat → Int32) × (Nat → Int32) × (Nat → Nat → Int32) => z.1) eS) rfl dX7_doGroup_152
      · have eS := eS.trans (if_pos c_132)
        refine lv_aload_n hx hb dX7_doGroup_135 rfl (lv_at hl 2 rfl) ?_
        refine r_get (v := .ref ((ad 4) 0)) hx hb hts hown hK hP fl_X7_26 0 rfl rfl dX7_doGroup_136 ?_
        refine lv_bipush (v := 15) hx hb dX7_doGroup_139 (by decide) ?_
        refine k_goI (k_runV (rest := []) (As := [.int 15]) hx hb hml hown hts hK hP hD hS hA hE hl.1 (c_X5_passMinutes l G kk (ad 4) g4 u4 rv4 15 ) vl_X7_120 rfl rfl rfl ⟨Nat.le_of_ble_eq_true rfl, Nat.le_of_ble_eq_true rfl, rfl, rfl⟩ (List.range' 1 9) (by decide +kernel) (skip_map (m := 1) (n := 0) (sg_Ce st_len) rfl) ⟨Nat.zero_le _, Nat.zero_le _⟩ rfl (Nat.le_of_ble_eq_true rfl) dX7_doGroup_141) hP hD hS hA (List.range' 1 9) (skip_map (m := 1) (n := 0) (sg_Ce st_len) rfl) st_ads (fun H locs hP hD hS => ?_)
        replace hP : va_P G vwCl ([(h, .inr (7, mrG ad))] ++ (stW kk (ad 4) ((sX5_passMinutes g4 u4 rv4 15).2.1) u4 ((sX5_passMinutes g4 u4 rv4 15).2.2))) H := vP_eq2 hP (skip_set (m := 1) (n := 0) (sg_Se st_len st_len) rfl)
        replace hD : va_D A ([(h, .inr (7, mrG ad))] ++ (stW kk (ad 4) ((sX5_passMinutes g4 u4 rv4 15).2.1) u4 ((sX5_passMinutes g4 u4 rv4 15).2.2))) := vD_eq2 hD (skip_set (m := 1) (n := 0) (sg_Se st_len st_len) rfl)
        have eS : sX7_doGroup g4 u4 rv4 x = sX7_doGroup_z_6 g4 u4 rv4 x (sX5_passMinutes g4 u4 rv4 15) := eS
        have hz_6 := pm_z g4 u4 rv4 15
        generalize sX5_passMinutes g4 u4 rv4 15 = z_6 at hP hD eS hz_6 ⊢
        refine lv_if_eq (tgt := 151) hx hb dX7_doGroup_144 (by decide) (fun c_144 => ?_) (fun c_144 => ?_)
        · have eS := eS.trans (if_pos c_144)
          refine lv_iconst (v := 0) hx hb dX7_doGroup_151 (by decide) ?_
          exact fin_z hx hb hr hlocks hK (vP_eq (congrArg (fun z : Int32 × (Nat → Int32) × (Nat → Int32) × (Nat → Nat → Int32) => ([(h, .inr (7, mrG ad))] ++ (stW kk (ad 4) z.2.1 z.2.2.1 z.2.2.2) : va_W)) eS.symm) hP) (vD_eq (congrArg (fun z : Int32 × (Nat → Int32) × (Nat → Int32) × (Nat → Nat → Int32) => ([(h, .inr (7, mrG ad))] ++ (stW kk (ad 4) z.2.1 z.2.2.1 z.2.2.2) : va_W)) eS.symm) hD) hS (congrArg (fun z : Int32 × (Nat → Int32) × (Nat → Int32) × (Nat → Nat → Int32) => z.1) eS) rfl dX7_doGroup_152
        · have eS := eS.trans (if_neg c_144)
          refine lv_iconst (v := 1) hx hb dX7_doGroup_147 (by decide) ?_
          refine lv_goto (tgt := 152) hx hb dX7_doGroup_148 (by decide) ?_
          exact fin_z hx hb hr hlocks hK (vP_eq (congrArg (fun z : Int32 × (Nat → Int32) × (Nat → Int32) × (Nat → Nat → Int32) => ([(h, .inr (7, mrG ad))] ++ (stW kk (ad 4) z.2.1 z.2.2.1 z.2.2.2) : va_W)) eS.symm) hP) (vD_eq (congrArg (fun z : Int32 × (Nat → Int32) × (Nat → Int32) × (Nat → Nat → Int32) => ([(h, .inr (7, mrG ad))] ++ (stW kk (ad 4) z.2.1 z.2.2.1 z.2.2.2) : va_W)) eS.symm) hD) hS (congrArg (fun z : Int32 × (Nat → Int32) × (Nat → Int32) × (Nat → Nat → Int32) => z.1) eS) rfl dX7_doGroup_152
  have eS := eS.trans (if_neg c_20_2)
  refine (Decidable.em ((x / 10000) = 4)).elim (fun c_20_3 => ?_) (fun c_20_3 => ?_)
  · have eS := eS.trans (if_pos c_20_3)
    refine lv_tableIn (tgt := 153) hx hb dX7_doGroup_20 (by rw [c_20_3]; decide) (by rw [c_20_3]; decide) (by rw [c_20_3]; rfl) (by decide) ?_
    refine lv_iload_n hx hb dX7_doGroup_153 rfl (lv_at hl 0 rfl) ?_
    refine lv_bipush (v := 10) hx hb dX7_doGroup_154 (by decide) ?_
    refine lv_irem hx hb dX7_doGroup_156 (by decide) ?_
    refine lv_if_ne (tgt := 179) hx hb dX7_doGroup_157 (by decide) (fun c_157 => ?_) (fun c_157 => ?_)
    · have eS := eS.trans (if_neg c_157)
      refine lv_iconst (v := 0) hx hb dX7_doGroup_179 (by decide) ?_
      exact fin_z hx hb hr hlocks hK (vP_eq (congrArg (fun z : Int32 × (Nat → Int32) × (Nat → Int32) × (Nat → Nat → Int32) => ([(h, .inr (7, mrG ad))] ++ (stW kk (ad 4) z.2.1 z.2.2.1 z.2.2.2) : va_W)) eS.symm) hP) (vD_eq (congrArg (fun z : Int32 × (Nat → Int32) × (Nat → Int32) × (Nat → Nat → Int32) => ([(h, .inr (7, mrG ad))] ++ (stW kk (ad 4) z.2.1 z.2.2.1 z.2.2.2) : va_W)) eS.symm) hD) hS (congrArg (fun z : Int32 × (Nat → Int32) × (Nat → Int32) × (Nat → Nat → Int32) => z.1) eS) rfl dX7_doGroup_180
    · have eS := eS.trans (if_pos c_157)
      refine lv_aload_n hx hb dX7_doGroup_160 rfl (lv_at hl 2 rfl) ?_
      refine r_get (v := .ref ((ad 4) 0)) hx hb hts hown hK hP fl_X7_26 0 rfl rfl dX7_doGroup_161 ?_
      refine lv_iload_n hx hb dX7_doGroup_164 rfl (lv_at hl 1 rfl) ?_
      refine lv_iload_n hx hb dX7_doGroup_165 rfl (lv_at hl 0 rfl) ?_
      refine lv_bipush (v := 10) hx hb dX7_doGroup_166 (by decide) ?_
      refine lv_idiv hx hb dX7_doGroup_168 (by decide) ?_
      refine k_goI (k_runV (rest := []) (As := [.int ((x / 1000) - (x / 1000) / 10 * 10), .int ((x - x / 1000 * 1000) / 10)]) hx hb hml hown hts hK hP hD hS hA hE hl.1 (c_X5_changeSetting l G kk (ad 4) g4 u4 rv4 ((x / 1000) - (x / 1000) / 10 * 10) ((x - x / 1000 * 1000) / 10) ) vl_X7_124 rfl rfl rfl ⟨Nat.le_of_ble_eq_true rfl, Nat.le_of_ble_eq_true rfl, rfl, rfl⟩ (List.range' 1 9) (by decide +kernel) (skip_map (m := 1) (n := 0) (sg_Ce st_len) rfl) ⟨Nat.zero_le _, Nat.zero_le _⟩ rfl (Nat.le_of_ble_eq_true rfl) dX7_doGroup_169) hP hD hS hA (List.range' 1 9) (skip_map (m := 1) (n := 0) (sg_Ce st_len) rfl) st_ads (fun H locs hP hD hS => ?_)
      replace hP : va_P G vwCl ([(h, .inr (7, mrG ad))] ++ (stW kk (ad 4) g4 ((sX5_changeSetting g4 u4 rv4 ((x / 1000) - (x / 1000) / 10 * 10) ((x - x / 1000 * 1000) / 10)).2) rv4)) H := vP_eq2 hP (skip_set (m := 1) (n := 0) (sg_Se st_len st_len) rfl)
      replace hD : va_D A ([(h, .inr (7, mrG ad))] ++ (stW kk (ad 4) g4 ((sX5_changeSetting g4 u4 rv4 ((x / 1000) - (x / 1000) / 10 * 10) ((x - x / 1000 * 1000) / 10)).2) rv4)) := vD_eq2 hD (skip_set (m := 1) (n := 0) (sg_Se st_len st_len) rfl)
      have eS : sX7_doGroup g4 u4 rv4 x = sX7_doGroup_z_7 g4 u4 rv4 x (sX5_changeSetting g4 u4 rv4 ((x / 1000) - (x / 1000) / 10 * 10) ((x - x / 1000 * 1000) / 10)) := eS
      have hz_7 := cs_z g4 u4 rv4 ((x / 1000) - (x / 1000) / 10 * 10) ((x - x / 1000 * 1000) / 10)
      generalize sX5_changeSetting g4 u4 rv4 ((x / 1000) - (x / 1000) / 10 * 10) ((x - x / 1000 * 1000) / 10) = z_7 at hP hD eS hz_7 ⊢
      refine lv_if_eq (tgt := 179) hx hb dX7_doGroup_172 (by decide) (fun c_172 => ?_) (fun c_172 => ?_)
      · have eS := eS.trans (if_pos c_172)
        refine lv_iconst (v := 0) hx hb dX7_doGroup_179 (by decide) ?_
        exact fin_z hx hb hr hlocks hK (vP_eq (congrArg (fun z : Int32 × (Nat → Int32) × (Nat → Int32) × (Nat → Nat → Int32) => ([(h, .inr (7, mrG ad))] ++ (stW kk (ad 4) z.2.1 z.2.2.1 z.2.2.2) : va_W)) eS.symm) hP) (vD_eq (congrArg (fun z : Int32 × (Nat → Int32) × (Nat → Int32) × (Nat → Nat → Int32) => ([(h, .inr (7, mrG ad))] ++ (stW kk (ad 4) z.2.1 z.2.2.1 z.2.2.2) : va_W)) eS.symm) hD) hS (congrArg (fun z : Int32 × (Nat → Int32) × (Nat → Int32) × (Nat → Nat → Int32) => z.1) eS) rfl dX7_doGroup_180
      · have eS := eS.trans (if_neg c_172)
        refine lv_iconst (v := 1) hx hb dX7_doGroup_175 (by decide) ?_
        refine lv_goto (tgt := 180) hx hb dX7_doGroup_176 (by decide) ?_
        exact fin_z hx hb hr hlocks hK (vP_eq (congrArg (fun z : Int32 × (Nat → Int32) × (Nat → Int32) × (Nat → Nat → Int32) => ([(h, .inr (7, mrG ad))] ++ (stW kk (ad 4) z.2.1 z.2.2.1 z.2.2.2) : va_W)) eS.symm) hP) (vD_eq (congrArg (fun z : Int32 × (Nat → Int32) × (Nat → Int32) × (Nat → Nat → Int32) => ([(h, .inr (7, mrG ad))] ++ (stW kk (ad 4) z.2.1 z.2.2.1 z.2.2.2) : va_W)) eS.symm) hD) hS (congrArg (fun z : Int32 × (Nat → Int32) × (Nat → Int32) × (Nat → Nat → Int32) => z.1) eS) rfl dX7_doGroup_180
  have eS := eS.trans (if_neg c_20_3)
  refine (Decidable.em ((x / 10000) = 5)).elim (fun c_20_4 => ?_) (fun c_20_4 => ?_)
  · have eS := eS.trans (if_pos c_20_4)
    refine lv_tableIn (tgt := 181) hx hb dX7_doGroup_20 (by rw [c_20_4]; decide) (by rw [c_20_4]; decide) (by rw [c_20_4]; rfl) (by decide) ?_
    refine lv_iload_n hx hb dX7_doGroup_181 rfl (lv_at hl 0 rfl) ?_
    refine lv_bipush (v := 10) hx hb dX7_doGroup_182 (by decide) ?_
    refine lv_irem hx hb dX7_doGroup_184 (by decide) ?_
    refine lv_if_ne (tgt := 207) hx hb dX7_doGroup_185 (by decide) (fun c_185 => ?_) (fun c_185 => ?_)
    · have eS := eS.trans (if_neg c_185)
      refine lv_iconst (v := 0) hx hb dX7_doGroup_207 (by decide) ?_
      exact fin_z hx hb hr hlocks hK (vP_eq (congrArg (fun z : Int32 × (Nat → Int32) × (Nat → Int32) × (Nat → Nat → Int32) => ([(h, .inr (7, mrG ad))] ++ (stW kk (ad 4) z.2.1 z.2.2.1 z.2.2.2) : va_W)) eS.symm) hP) (vD_eq (congrArg (fun z : Int32 × (Nat → Int32) × (Nat → Int32) × (Nat → Nat → Int32) => ([(h, .inr (7, mrG ad))] ++ (stW kk (ad 4) z.2.1 z.2.2.1 z.2.2.2) : va_W)) eS.symm) hD) hS (congrArg (fun z : Int32 × (Nat → Int32) × (Nat → Int32) × (Nat → Nat → Int32) => z.1) eS) rfl dX7_doGroup_208
    · have eS := eS.trans (if_pos c_185)
      refine lv_aload_n hx hb dX7_doGroup_188 rfl (lv_at hl 2 rfl) ?_
      refine r_get (v := .ref ((ad 4) 0)) hx hb hts hown hK hP fl_X7_26 0 rfl rfl dX7_doGroup_189 ?_
      refine lv_iload_n hx hb dX7_doGroup_192 rfl (lv_at hl 1 rfl) ?_
      refine lv_iload_n hx hb dX7_doGroup_193 rfl (lv_at hl 0 rfl) ?_
      refine lv_bipush (v := 10) hx hb dX7_doGroup_194 (by decide) ?_
      refine lv_idiv hx hb dX7_doGroup_196 (by decide) ?_
      refine k_goI (k_runV (rest := []) (As := [.int ((x / 1000) - (x / 1000) / 10 * 10), .int ((x - x / 1000 * 1000) / 10)]) hx hb hml hown hts hK hP hD hS hA hE hl.1 (c_X5_takeGoods l G kk (ad 4) g4 u4 rv4 ((x / 1000) - (x / 1000) / 10 * 10) ((x - x / 1000 * 1000) / 10) ) vl_X7_195 rfl rfl rfl ⟨Nat.le_of_ble_eq_true rfl, Nat.le_of_ble_eq_true rfl, rfl, rfl⟩ (List.range' 1 9) (by decide +kernel) (skip_map (m := 1) (n := 0) (sg_Ce st_len) rfl) ⟨Nat.zero_le _, Nat.zero_le _⟩ rfl (Nat.le_of_ble_eq_true rfl) dX7_doGroup_197) hP hD hS hA (List.range' 1 9) (skip_map (m := 1) (n := 0) (sg_Ce st_len) rfl) st_ads (fun H locs hP hD hS => ?_)
      replace hP : va_P G vwCl ([(h, .inr (7, mrG ad))] ++ (stW kk (ad 4) g4 u4 ((sX5_takeGoods g4 u4 rv4 ((x / 1000) - (x / 1000) / 10 * 10) ((x - x / 1000 * 1000) / 10)).2))) H := vP_eq2 hP (skip_set (m := 1) (n := 0) (sg_Se st_len st_len) rfl)
      replace hD : va_D A ([(h, .inr (7, mrG ad))] ++ (stW kk (ad 4) g4 u4 ((sX5_takeGoods g4 u4 rv4 ((x / 1000) - (x / 1000) / 10 * 10) ((x - x / 1000 * 1000) / 10)).2))) := vD_eq2 hD (skip_set (m := 1) (n := 0) (sg_Se st_len st_len) rfl)
      have eS : sX7_doGroup g4 u4 rv4 x = sX7_doGroup_z_8 g4 u4 rv4 x (sX5_takeGoods g4 u4 rv4 ((x / 1000) - (x / 1000) / 10 * 10) ((x - x / 1000 * 1000) / 10)) := eS
      generalize sX5_takeGoods g4 u4 rv4 ((x / 1000) - (x / 1000) / 10 * 10) ((x - x / 1000 * 1000) / 10) = z_8 at hP hD eS ⊢
      refine lv_if_eq (tgt := 207) hx hb dX7_doGroup_200 (by decide) (fun c_200 => ?_) (fun c_200 => ?_)
      · have eS := eS.trans (if_pos c_200)
        refine lv_iconst (v := 0) hx hb dX7_doGroup_207 (by decide) ?_
        exact fin_z hx hb hr hlocks hK (vP_eq (congrArg (fun z : Int32 × (Nat → Int32) × (Nat → Int32) × (Nat → Nat → Int32) => ([(h, .inr (7, mrG ad))] ++ (stW kk (ad 4) z.2.1 z.2.2.1 z.2.2.2) : va_W)) eS.symm) hP) (vD_eq (congrArg (fun z : Int32 × (Nat → Int32) × (Nat → Int32) × (Nat → Nat → Int32) => ([(h, .inr (7, mrG ad))] ++ (stW kk (ad 4) z.2.1 z.2.2.1 z.2.2.2) : va_W)) eS.symm) hD) hS (congrArg (fun z : Int32 × (Nat → Int32) × (Nat → Int32) × (Nat → Nat → Int32) => z.1) eS) rfl dX7_doGroup_208
      · have eS := eS.trans (if_neg c_200)
        refine lv_iconst (v := 1) hx hb dX7_doGroup_203 (by decide) ?_
        refine lv_goto (tgt := 208) hx hb dX7_doGroup_204 (by decide) ?_
        exact fin_z hx hb hr hlocks hK (vP_eq (congrArg (fun z : Int32 × (Nat → Int32) × (Nat → Int32) × (Nat → Nat → Int32) => ([(h, .inr (7, mrG ad))] ++ (stW kk (ad 4) z.2.1 z.2.2.1 z.2.2.2) : va_W)) eS.symm) hP) (vD_eq (congrArg (fun z : Int32 × (Nat → Int32) × (Nat → Int32) × (Nat → Nat → Int32) => ([(h, .inr (7, mrG ad))] ++ (stW kk (ad 4) z.2.1 z.2.2.1 z.2.2.2) : va_W)) eS.symm) hD) hS (congrArg (fun z : Int32 × (Nat → Int32) × (Nat → Int32) × (Nat → Nat → Int32) => z.1) eS) rfl dX7_doGroup_208
  have eS := eS.trans (if_neg c_20_4)
  refine (Decidable.em ((x / 10000) = 6)).elim (fun c_20_5 => ?_) (fun c_20_5 => ?_)
  · have eS := eS.trans (if_pos c_20_5)
    refine lv_tableIn (tgt := 236) hx hb dX7_doGroup_20 (by rw [c_20_5]; decide) (by rw [c_20_5]; decide) (by rw [c_20_5]; rfl) (by decide) ?_
    refine lv_aload_n hx hb dX7_doGroup_236 rfl (lv_at hl 2 rfl) ?_
    refine lv_iload_n hx hb dX7_doGroup_237 rfl (lv_at hl 3 rfl) ?_
    refine lv_sipush (v := 10000) hx hb dX7_doGroup_238 (by decide) ?_
    refine lv_idiv hx hb dX7_doGroup_241 (by decide) ?_
    refine lv_aload_n hx hb dX7_doGroup_242 rfl (lv_at hl 2 rfl) ?_
    refine r_get (v := .ref ((ad 4) 0)) hx hb hts hown hK hP fl_X7_26 0 rfl rfl dX7_doGroup_243 ?_
    refine lv_iload_n hx hb dX7_doGroup_246 rfl (lv_at hl 1 rfl) ?_
    refine k_goQ (k_runV (rest := [.int (x / 10000), .ref h]) (As := [.int ((x / 1000) - (x / 1000) / 10 * 10)]) hx hb hml hown hts hK hP hD hS hA hE hl.1 (c_X5_roomAt l G kk (ad 4) g4 u4 rv4 ((x / 1000) - (x / 1000) / 10 * 10) ) vl_X7_133 rfl rfl rfl ⟨Nat.le_of_ble_eq_true rfl, Nat.le_of_ble_eq_true rfl, rfl, rfl⟩ (List.range' 1 9) (by decide +kernel) (skip_map (m := 1) (n := 0) (sg_Ce st_len) rfl) ⟨Nat.zero_le _, Nat.zero_le _⟩ rfl (Nat.le_of_ble_eq_true rfl) dX7_doGroup_247) hP hD hS hA (List.range' 1 9) (skip_map (m := 1) (n := 0) (sg_Ce st_len) rfl) st_ads (fun H locs hP hD hS => ?_)
    replace hP : va_P G vwCl ([(h, .inr (7, mrG ad))] ++ (stW kk (ad 4) g4 u4 rv4)) H := vP_eq2 hP (sm_same (skip_map (m := 1) (n := 0) (sg_Ce st_len) rfl))
    replace hD : va_D A ([(h, .inr (7, mrG ad))] ++ (stW kk (ad 4) g4 u4 rv4)) := vD_eq2 hD (sm_same (skip_map (m := 1) (n := 0) (sg_Ce st_len) rfl))
    rcases opt_or ((sX5_roomAt g4 u4 rv4 ((x / 1000) - (x / 1000) / 10 * 10))) with hq_9 | ⟨k_10, hq_9⟩
    · refine top_eqV (y := .null) (by rw [hq_9]; rfl) ?_
      have eS := eS.trans (oe_n hq_9)
      refine lv_iload_n hx hb dX7_doGroup_250 rfl (lv_at hl 0 rfl) ?_
      refine k_goI (k_runV (rest := []) (As := [.int (x / 10000), .null, .int (x - x / 1000 * 1000)]) hx hb hml hown hts hK hP hD hS hA hE hl.1 (c_X7_isSo0 l G kk h ad g4 u4 rv4 (x / 10000) (x - x / 1000 * 1000) ) vl_X7_269 rfl rfl rfl ⟨Nat.le_of_ble_eq_true rfl, Nat.le_of_ble_eq_true rfl, rfl, rfl⟩ ([0] ++ (List.range' 1 9)) (by decide +kernel) (mp_b (mp_c rfl mp_nil) (skip_map (m := 1) (n := 0) (sg_Ce st_len) rfl)) ⟨Nat.zero_le _, Nat.zero_le _⟩ rfl (Nat.le_of_ble_eq_true rfl) dX7_doGroup_251) hP hD hS hA ([0] ++ (List.range' 1 9)) (mp_b (mp_c rfl mp_nil) (skip_map (m := 1) (n := 0) (sg_Ce st_len) rfl)) (ads_app ads1 st_ads) (fun H locs hP hD hS => ?_)
      replace hP : va_P G vwCl ([(h, .inr (7, mrG ad))] ++ (stW kk (ad 4) g4 u4 rv4)) H := vP_eq2 hP (sm_same (mp_b (mp_c rfl mp_nil) (skip_map (m := 1) (n := 0) (sg_Ce st_len) rfl)))
      replace hD : va_D A ([(h, .inr (7, mrG ad))] ++ (stW kk (ad 4) g4 u4 rv4)) := vD_eq2 hD (sm_same (mp_b (mp_c rfl mp_nil) (skip_map (m := 1) (n := 0) (sg_Ce st_len) rfl)))
      exact fin_z hx hb hr hlocks hK (vP_eq (congrArg (fun z : Int32 × (Nat → Int32) × (Nat → Int32) × (Nat → Nat → Int32) => ([(h, .inr (7, mrG ad))] ++ (stW kk (ad 4) z.2.1 z.2.2.1 z.2.2.2) : va_W)) eS.symm) hP) (vD_eq (congrArg (fun z : Int32 × (Nat → Int32) × (Nat → Int32) × (Nat → Nat → Int32) => ([(h, .inr (7, mrG ad))] ++ (stW kk (ad 4) z.2.1 z.2.2.1 z.2.2.2) : va_W)) eS.symm) hD) hS (congrArg (fun z : Int32 × (Nat → Int32) × (Nat → Int32) × (Nat → Nat → Int32) => z.1) eS) (zb_n (is_z0 _ _ _ _ _)) dX7_doGroup_254
    · refine top_eqV (y := .ref ((ad 4) (3 + k_10))) (by rw [hq_9]; rfl) ?_
      have hk_10 := roomAt_lt hq_9
      have eS := eS.trans (oe_s hq_9)
      refine lv_iload_n hx hb dX7_doGroup_250 rfl (lv_at hl 0 rfl) ?_
      refine k_goI (k_runV (rest := []) (As := [.int (x / 10000), .ref ((ad 4) (3 + k_10)), .int (x - x / 1000 * 1000)]) hx hb hml hown hts hK hP hD hS hA hE hl.1 (c_X7_isSo l G kk h ad g4 u4 rv4 (x / 10000) k_10 (x - x / 1000 * 1000) hk_10) vl_X7_269 rfl rfl rfl ⟨Nat.le_of_ble_eq_true rfl, Nat.le_of_ble_eq_true rfl, rfl, rfl⟩ ([0] ++ (List.range' 1 9)) (by decide +kernel) (mp_b (mp_c rfl mp_nil) (skip_map (m := 1) (n := 0) (sg_Ce st_len) rfl)) ⟨Nat.zero_le _, Nat.zero_le _⟩ rfl (Nat.le_of_ble_eq_true rfl) dX7_doGroup_251) hP hD hS hA ([0] ++ (List.range' 1 9)) (mp_b (mp_c rfl mp_nil) (skip_map (m := 1) (n := 0) (sg_Ce st_len) rfl)) (ads_app ads1 st_ads) (fun H locs hP hD hS => ?_)
      replace hP : va_P G vwCl ([(h, .inr (7, mrG ad))] ++ (stW kk (ad 4) g4 u4 ((sX7_isSo g4 u4 rv4 (x / 10000) k_10 (x - x / 1000 * 1000)).2))) H := vP_eq2 hP (sm_b (ws1 := [(h, .inr (7, mrG ad))] ++ (stW kk (ad 4) g4 u4 rv4)) (sm_c (ws1 := [(h, .inr (7, mrG ad))] ++ (stW kk (ad 4) g4 u4 rv4)) (by exact rfl) rfl) rfl (skip_set (m := 1) (n := 0) (sg_Se st_len st_len) rfl))
      replace hD : va_D A ([(h, .inr (7, mrG ad))] ++ (stW kk (ad 4) g4 u4 ((sX7_isSo g4 u4 rv4 (x / 10000) k_10 (x - x / 1000 * 1000)).2))) := vD_eq2 hD (sm_b (ws1 := [(h, .inr (7, mrG ad))] ++ (stW kk (ad 4) g4 u4 rv4)) (sm_c (ws1 := [(h, .inr (7, mrG ad))] ++ (stW kk (ad 4) g4 u4 rv4)) (by exact rfl) rfl) rfl (skip_set (m := 1) (n := 0) (sg_Se st_len st_len) rfl))
      have eS : sX7_doGroup g4 u4 rv4 x = sX7_doGroup_z_11 g4 u4 rv4 x k_10 (sX7_isSo g4 u4 rv4 (x / 10000) k_10 (x - x / 1000 * 1000)) := eS
      have hz_11 := is_z g4 u4 rv4 (x / 10000) k_10 (x - x / 1000 * 1000)
      generalize sX7_isSo g4 u4 rv4 (x / 10000) k_10 (x - x / 1000 * 1000) = z_11 at hP hD eS hz_11 ⊢
      exact fin_z hx hb hr hlocks hK (vP_eq (congrArg (fun z : Int32 × (Nat → Int32) × (Nat → Int32) × (Nat → Nat → Int32) => ([(h, .inr (7, mrG ad))] ++ (stW kk (ad 4) z.2.1 z.2.2.1 z.2.2.2) : va_W)) eS.symm) hP) (vD_eq (congrArg (fun z : Int32 × (Nat → Int32) × (Nat → Int32) × (Nat → Nat → Int32) => ([(h, .inr (7, mrG ad))] ++ (stW kk (ad 4) z.2.1 z.2.2.1 z.2.2.2) : va_W)) eS.symm) hD) hS ((congrArg (fun z : Int32 × (Nat → Int32) × (Nat → Int32) × (Nat → Nat → Int32) => z.1) eS).trans rfl) (zb_n hz_11) dX7_doGroup_254
  have eS := eS.trans (if_neg c_20_5)
  refine (Decidable.em ((x / 10000) = 7)).elim (fun c_20_6 => ?_) (fun c_20_6 => ?_)
  · have eS := eS.trans (if_pos c_20_6)
    refine lv_tableIn (tgt := 236) hx hb dX7_doGroup_20 (by rw [c_20_6]; decide) (by rw [c_20_6]; decide) (by rw [c_20_6]; rfl) (by decide) ?_
    refine lv_aload_n hx hb dX7_doGroup_236 rfl (lv_at hl 2 rfl) ?_
    refine lv_iload_n hx hb dX7_doGroup_237 rfl (lv_at hl 3 rfl) ?_
    refine lv_sipush (v := 10000) hx hb dX7_doGroup_238 (by decide) ?_
    refine lv_idiv hx hb dX7_doGroup_241 (by decide) ?_
    refine lv_aload_n hx hb dX7_doGroup_242 rfl (lv_at hl 2 rfl) ?_
    refine r_get (v := .ref ((ad 4) 0)) hx hb hts hown hK hP fl_X7_26 0 rfl rfl dX7_doGroup_243 ?_
    refine lv_iload_n hx hb dX7_doGroup_246 rfl (lv_at hl 1 rfl) ?_
    refine k_goQ (k_runV (rest := [.int (x / 10000), .ref h]) (As := [.int ((x / 1000) - (x / 1000) / 10 * 10)]) hx hb hml hown hts hK hP hD hS hA hE hl.1 (c_X5_roomAt l G kk (ad 4) g4 u4 rv4 ((x / 1000) - (x / 1000) / 10 * 10) ) vl_X7_133 rfl rfl rfl ⟨Nat.le_of_ble_eq_true rfl, Nat.le_of_ble_eq_true rfl, rfl, rfl⟩ (List.range' 1 9) (by decide +kernel) (skip_map (m := 1) (n := 0) (sg_Ce st_len) rfl) ⟨Nat.zero_le _, Nat.zero_le _⟩ rfl (Nat.le_of_ble_eq_true rfl) dX7_doGroup_247) hP hD hS hA (List.range' 1 9) (skip_map (m := 1) (n := 0) (sg_Ce st_len) rfl) st_ads (fun H locs hP hD hS => ?_)
    replace hP : va_P G vwCl ([(h, .inr (7, mrG ad))] ++ (stW kk (ad 4) g4 u4 rv4)) H := vP_eq2 hP (sm_same (skip_map (m := 1) (n := 0) (sg_Ce st_len) rfl))
    replace hD : va_D A ([(h, .inr (7, mrG ad))] ++ (stW kk (ad 4) g4 u4 rv4)) := vD_eq2 hD (sm_same (skip_map (m := 1) (n := 0) (sg_Ce st_len) rfl))
    rcases opt_or ((sX5_roomAt g4 u4 rv4 ((x / 1000) - (x / 1000) / 10 * 10))) with hq_12 | ⟨k_13, hq_12⟩
    · refine top_eqV (y := .null) (by rw [hq_12]; rfl) ?_
      have eS := eS.trans (oe_n hq_12)
      refine lv_iload_n hx hb dX7_doGroup_250 rfl (lv_at hl 0 rfl) ?_
      refine k_goI (k_runV (rest := []) (As := [.int (x / 10000), .null, .int (x - x / 1000 * 1000)]) hx hb hml hown hts hK hP hD hS hA hE hl.1 (c_X7_isSo0 l G kk h ad g4 u4 rv4 (x / 10000) (x - x / 1000 * 1000) ) vl_X7_269 rfl rfl rfl ⟨Nat.le_of_ble_eq_true rfl, Nat.le_of_ble_eq_true rfl, rfl, rfl⟩ ([0] ++ (List.range' 1 9)) (by decide +kernel) (mp_b (mp_c rfl mp_nil) (skip_map (m := 1) (n := 0) (sg_Ce st_len) rfl)) ⟨Nat.zero_le _, Nat.zero_le _⟩ rfl (Nat.le_of_ble_eq_true rfl) dX7_doGroup_251) hP hD hS hA ([0] ++ (List.range' 1 9)) (mp_b (mp_c rfl mp_nil) (skip_map (m := 1) (n := 0) (sg_Ce st_len) rfl)) (ads_app ads1 st_ads) (fun H locs hP hD hS => ?_)
      replace hP : va_P G vwCl ([(h, .inr (7, mrG ad))] ++ (stW kk (ad 4) g4 u4 rv4)) H := vP_eq2 hP (sm_same (mp_b (mp_c rfl mp_nil) (skip_map (m := 1) (n := 0) (sg_Ce st_len) rfl)))
      replace hD : va_D A ([(h, .inr (7, mrG ad))] ++ (stW kk (ad 4) g4 u4 rv4)) := vD_eq2 hD (sm_same (mp_b (mp_c rfl mp_nil) (skip_map (m := 1) (n := 0) (sg_Ce st_len) rfl)))
      exact fin_z hx hb hr hlocks hK (vP_eq (congrArg (fun z : Int32 × (Nat → Int32) × (Nat → Int32) × (Nat → Nat → Int32) => ([(h, .inr (7, mrG ad))] ++ (stW kk (ad 4) z.2.1 z.2.2.1 z.2.2.2) : va_W)) eS.symm) hP) (vD_eq (congrArg (fun z : Int32 × (Nat → Int32) × (Nat → Int32) × (Nat → Nat → Int32) => ([(h, .inr (7, mrG ad))] ++ (stW kk (ad 4) z.2.1 z.2.2.1 z.2.2.2) : va_W)) eS.symm) hD) hS (congrArg (fun z : Int32 × (Nat → Int32) × (Nat → Int32) × (Nat → Nat → Int32) => z.1) eS) (zb_n (is_z0 _ _ _ _ _)) dX7_doGroup_254
    · refine top_eqV (y := .ref ((ad 4) (3 + k_13))) (by rw [hq_12]; rfl) ?_
      have hk_13 := roomAt_lt hq_12
      have eS := eS.trans (oe_s hq_12)
      refine lv_iload_n hx hb dX7_doGroup_250 rfl (lv_at hl 0 rfl) ?_
      refine k_goI (k_runV (rest := []) (As := [.int (x / 10000), .ref ((ad 4) (3 + k_13)), .int (x - x / 1000 * 1000)]) hx hb hml hown hts hK hP hD hS hA hE hl.1 (c_X7_isSo l G kk h ad g4 u4 rv4 (x / 10000) k_13 (x - x / 1000 * 1000) hk_13) vl_X7_269 rfl rfl rfl ⟨Nat.le_of_ble_eq_true rfl, Nat.le_of_ble_eq_true rfl, rfl, rfl⟩ ([0] ++ (List.range' 1 9)) (by decide +kernel) (mp_b (mp_c rfl mp_nil) (skip_map (m := 1) (n := 0) (sg_Ce st_len) rfl)) ⟨Nat.zero_le _, Nat.zero_le _⟩ rfl (Nat.le_of_ble_eq_true rfl) dX7_doGroup_251) hP hD hS hA ([0] ++ (List.range' 1 9)) (mp_b (mp_c rfl mp_nil) (skip_map (m := 1) (n := 0) (sg_Ce st_len) rfl)) (ads_app ads1 st_ads) (fun H locs hP hD hS => ?_)
      replace hP : va_P G vwCl ([(h, .inr (7, mrG ad))] ++ (stW kk (ad 4) g4 u4 ((sX7_isSo g4 u4 rv4 (x / 10000) k_13 (x - x / 1000 * 1000)).2))) H := vP_eq2 hP (sm_b (ws1 := [(h, .inr (7, mrG ad))] ++ (stW kk (ad 4) g4 u4 rv4)) (sm_c (ws1 := [(h, .inr (7, mrG ad))] ++ (stW kk (ad 4) g4 u4 rv4)) (by exact rfl) rfl) rfl (skip_set (m := 1) (n := 0) (sg_Se st_len st_len) rfl))
      replace hD : va_D A ([(h, .inr (7, mrG ad))] ++ (stW kk (ad 4) g4 u4 ((sX7_isSo g4 u4 rv4 (x / 10000) k_13 (x - x / 1000 * 1000)).2))) := vD_eq2 hD (sm_b (ws1 := [(h, .inr (7, mrG ad))] ++ (stW kk (ad 4) g4 u4 rv4)) (sm_c (ws1 := [(h, .inr (7, mrG ad))] ++ (stW kk (ad 4) g4 u4 rv4)) (by exact rfl) rfl) rfl (skip_set (m := 1) (n := 0) (sg_Se st_len st_len) rfl))
      have eS : sX7_doGroup g4 u4 rv4 x = sX7_doGroup_z_14 g4 u4 rv4 x k_13 (sX7_isSo g4 u4 rv4 (x / 10000) k_13 (x - x / 1000 * 1000)) := eS
      have hz_14 := is_z g4 u4 rv4 (x / 10000) k_13 (x - x / 1000 * 1000)
      generalize sX7_isSo g4 u4 rv4 (x / 10000) k_13 (x - x / 1000 * 1000) = z_14 at hP hD eS hz_14 ⊢
      exact fin_z hx hb hr hlocks hK (vP_eq (congrArg (fun z : Int32 × (Nat → Int32) × (Nat → Int32) × (Nat → Nat → Int32) => ([(h, .inr (7, mrG ad))] ++ (stW kk (ad 4) z.2.1 z.2.2.1 z.2.2.2) : va_W)) eS.symm) hP) (vD_eq (congrArg (fun z : Int32 × (Nat → Int32) × (Nat → Int32) × (Nat → Nat → Int32) => ([(h, .inr (7, mrG ad))] ++ (stW kk (ad 4) z.2.1 z.2.2.1 z.2.2.2) : va_W)) eS.symm) hD) hS ((congrArg (fun z : Int32 × (Nat → Int32) × (Nat → Int32) × (Nat → Nat → Int32) => z.1) eS).trans rfl) (zb_n hz_14) dX7_doGroup_254
  have eS := eS.trans (if_neg c_20_6)
  refine (Decidable.em ((x / 10000) = 8)).elim (fun c_20_7 => ?_) (fun c_20_7 => ?_)
  · have eS := eS.trans (if_pos c_20_7)
    refine lv_tableIn (tgt := 209) hx hb dX7_doGroup_20 (by rw [c_20_7]; decide) (by rw [c_20_7]; decide) (by rw [c_20_7]; rfl) (by decide) ?_
    refine lv_iload_n hx hb dX7_doGroup_209 rfl (lv_at hl 1 rfl) ?_
    refine lv_if_ne (tgt := 234) hx hb dX7_doGroup_210 (by decide) (fun c_210 => ?_) (fun c_210 => ?_)
    · have eS := eS.trans (if_neg c_210)
      refine lv_iconst (v := 0) hx hb dX7_doGroup_234 (by decide) ?_
      exact fin_z hx hb hr hlocks hK (vP_eq (congrArg (fun z : Int32 × (Nat → Int32) × (Nat → Int32) × (Nat → Nat → Int32) => ([(h, .inr (7, mrG ad))] ++ (stW kk (ad 4) z.2.1 z.2.2.1 z.2.2.2) : va_W)) eS.symm) hP) (vD_eq (congrArg (fun z : Int32 × (Nat → Int32) × (Nat → Int32) × (Nat → Nat → Int32) => ([(h, .inr (7, mrG ad))] ++ (stW kk (ad 4) z.2.1 z.2.2.1 z.2.2.2) : va_W)) eS.symm) hD) hS (congrArg (fun z : Int32 × (Nat → Int32) × (Nat → Int32) × (Nat → Nat → Int32) => z.1) eS) rfl dX7_doGroup_235
    · have eS := eS.trans (if_pos c_210)
      refine lv_iload_n hx hb dX7_doGroup_213 rfl (lv_at hl 0 rfl) ?_
      refine lv_bipush (v := 100) hx hb dX7_doGroup_214 (by decide) ?_
      refine lv_icmp_ge (tgt := 234) hx hb dX7_doGroup_216 (by decide) (fun c_216 => ?_) (fun c_216 => ?_)
      · have eS := eS.trans (if_pos c_216)
        refine lv_iconst (v := 0) hx hb dX7_doGroup_234 (by decide) ?_
        exact fin_z hx hb hr hlocks hK (vP_eq (congrArg (fun z : Int32 × (Nat → Int32) × (Nat → Int32) × (Nat → Nat → Int32) => ([(h, .inr (7, mrG ad))] ++ (stW kk (ad 4) z.2.1 z.2.2.1 z.2.2.2) : va_W)) eS.symm) hP) (vD_eq (congrArg (fun z : Int32 × (Nat → Int32) × (Nat → Int32) × (Nat → Nat → Int32) => ([(h, .inr (7, mrG ad))] ++ (stW kk (ad 4) z.2.1 z.2.2.1 z.2.2.2) : va_W)) eS.symm) hD) hS (congrArg (fun z : Int32 × (Nat → Int32) × (Nat → Int32) × (Nat → Nat → Int32) => z.1) eS) rfl dX7_doGroup_235
      · have eS := eS.trans (if_neg c_216)
        refine lv_aload_n hx hb dX7_doGroup_219 rfl (lv_at hl 2 rfl) ?_
        refine r_get (v := .ref ((ad 4) 0)) hx hb hts hown hK hP fl_X7_26 0 rfl rfl dX7_doGroup_220 ?_
        refine r_getN (v := .int (g4 3)) hE hx hb hts hown hK hP fn_X7_233 1 (sk_get (m := 1) (n := 0) rfl rfl) rfl dX7_doGroup_223 ?_
        refine lv_iload_n hx hb dX7_doGroup_226 rfl (lv_at hl 0 rfl) ?_
        refine lv_icmp_gt (tgt := 234) hx hb dX7_doGroup_227 (by decide) (fun c_227 => ?_) (fun c_227 => ?_)
        · have eS := eS.trans (if_pos c_227)
          refine lv_iconst (v := 0) hx hb dX7_doGroup_234 (by decide) ?_
          exact fin_z hx hb hr hlocks hK (vP_eq (congrArg (fun z : Int32 × (Nat → Int32) × (Nat → Int32) × (Nat → Nat → Int32) => ([(h, .inr (7, mrG ad))] ++ (stW kk (ad 4) z.2.1 z.2.2.1 z.2.2.2) : va_W)) eS.symm) hP) (vD_eq (congrArg (fun z : Int32 × (Nat → Int32) × (Nat → Int32) × (Nat → Nat → Int32) => ([(h, .inr (7, mrG ad))] ++ (stW kk (ad 4) z.2.1 z.2.2.1 z.2.2.2) : va_W)) eS.symm) hD) hS (congrArg (fun z : Int32 × (Nat → Int32) × (Nat → Int32) × (Nat → Nat → Int32) => z.1) eS) rfl dX7_doGroup_235
        · have eS := eS.trans (if_neg c_227)
          refine lv_iconst (v := 1) hx hb dX7_doGroup_230 (by decide) ?_
          refine lv_goto (tgt := 235) hx hb dX7_doGroup_231 (by decide) ?_
          exact fin_z hx hb hr hlocks hK (vP_eq (congrArg (fun z : Int32 × (Nat → Int32) × (Nat → Int32) × (Nat → Nat → Int32) => ([(h, .inr (7, mrG ad))] ++ (stW kk (ad 4) z.2.1 z.2.2.1 z.2.2.2) : va_W)) eS.symm) hP) (vD_eq (congrArg (fun z : Int32 × (Nat → Int32) × (Nat → Int32) × (Nat → Nat → Int32) => ([(h, .inr (7, mrG ad))] ++ (stW kk (ad 4) z.2.1 z.2.2.1 z.2.2.2) : va_W)) eS.symm) hD) hS (congrArg (fun z : Int32 × (Nat → Int32) × (Nat → Int32) × (Nat → Nat → Int32) => z.1) eS) rfl dX7_doGroup_235
  have eS := eS.trans (if_neg c_20_7)
  refine lv_tableOut (tgt := 236) hx hb dX7_doGroup_20 (by have t0 := lv_neT (a := 1) c_20_0 (by decide); have t1 := lv_neT (a := 2) c_20_1 (by decide); have t2 := lv_neT (a := 3) c_20_2 (by decide); have t3 := lv_neT (a := 4) c_20_3 (by decide); have t4 := lv_neT (a := 5) c_20_4 (by decide); have t5 := lv_neT (a := 6) c_20_5 (by decide); have t6 := lv_neT (a := 7) c_20_6 (by decide); have t7 := lv_neT (a := 8) c_20_7 (by decide); omega) (by decide) ?_
  refine lv_aload_n hx hb dX7_doGroup_236 rfl (lv_at hl 2 rfl) ?_
  refine lv_iload_n hx hb dX7_doGroup_237 rfl (lv_at hl 3 rfl) ?_
  refine lv_sipush (v := 10000) hx hb dX7_doGroup_238 (by decide) ?_
  refine lv_idiv hx hb dX7_doGroup_241 (by decide) ?_
  refine lv_aload_n hx hb dX7_doGroup_242 rfl (lv_at hl 2 rfl) ?_
  refine r_get (v := .ref ((ad 4) 0)) hx hb hts hown hK hP fl_X7_26 0 rfl rfl dX7_doGroup_243 ?_
  refine lv_iload_n hx hb dX7_doGroup_246 rfl (lv_at hl 1 rfl) ?_
  refine k_goQ (k_runV (rest := [.int (x / 10000), .ref h]) (As := [.int ((x / 1000) - (x / 1000) / 10 * 10)]) hx hb hml hown hts hK hP hD hS hA hE hl.1 (c_X5_roomAt l G kk (ad 4) g4 u4 rv4 ((x / 1000) - (x / 1000) / 10 * 10) ) vl_X7_133 rfl rfl rfl ⟨Nat.le_of_ble_eq_true rfl, Nat.le_of_ble_eq_true rfl, rfl, rfl⟩ (List.range' 1 9) (by decide +kernel) (skip_map (m := 1) (n := 0) (sg_Ce st_len) rfl) ⟨Nat.zero_le _, Nat.zero_le _⟩ rfl (Nat.le_of_ble_eq_true rfl) dX7_doGroup_247) hP hD hS hA (List.range' 1 9) (skip_map (m := 1) (n := 0) (sg_Ce st_len) rfl) st_ads (fun H locs hP hD hS => ?_)
  replace hP : va_P G vwCl ([(h, .inr (7, mrG ad))] ++ (stW kk (ad 4) g4 u4 rv4)) H := vP_eq2 hP (sm_same (skip_map (m := 1) (n := 0) (sg_Ce st_len) rfl))
  replace hD : va_D A ([(h, .inr (7, mrG ad))] ++ (stW kk (ad 4) g4 u4 rv4)) := vD_eq2 hD (sm_same (skip_map (m := 1) (n := 0) (sg_Ce st_len) rfl))
  rcases opt_or ((sX5_roomAt g4 u4 rv4 ((x / 1000) - (x / 1000) / 10 * 10))) with hq_15 | ⟨k_16, hq_15⟩
  · refine top_eqV (y := .null) (by rw [hq_15]; rfl) ?_
    have eS := eS.trans (oe_n hq_15)
    refine lv_iload_n hx hb dX7_doGroup_250 rfl (lv_at hl 0 rfl) ?_
    refine k_goI (k_runV (rest := []) (As := [.int (x / 10000), .null, .int (x - x / 1000 * 1000)]) hx hb hml hown hts hK hP hD hS hA hE hl.1 (c_X7_isSo0 l G kk h ad g4 u4 rv4 (x / 10000) (x - x / 1000 * 1000) ) vl_X7_269 rfl rfl rfl ⟨Nat.le_of_ble_eq_true rfl, Nat.le_of_ble_eq_true rfl, rfl, rfl⟩ ([0] ++ (List.range' 1 9)) (by decide +kernel) (mp_b (mp_c rfl mp_nil) (skip_map (m := 1) (n := 0) (sg_Ce st_len) rfl)) ⟨Nat.zero_le _, Nat.zero_le _⟩ rfl (Nat.le_of_ble_eq_true rfl) dX7_doGroup_251) hP hD hS hA ([0] ++ (List.range' 1 9)) (mp_b (mp_c rfl mp_nil) (skip_map (m := 1) (n := 0) (sg_Ce st_len) rfl)) (ads_app ads1 st_ads) (fun H locs hP hD hS => ?_)
    replace hP : va_P G vwCl ([(h, .inr (7, mrG ad))] ++ (stW kk (ad 4) g4 u4 rv4)) H := vP_eq2 hP (sm_same (mp_b (mp_c rfl mp_nil) (skip_map (m := 1) (n := 0) (sg_Ce st_len) rfl)))
    replace hD : va_D A ([(h, .inr (7, mrG ad))] ++ (stW kk (ad 4) g4 u4 rv4)) := vD_eq2 hD (sm_same (mp_b (mp_c rfl mp_nil) (skip_map (m := 1) (n := 0) (sg_Ce st_len) rfl)))
    exact fin_z hx hb hr hlocks hK (vP_eq (congrArg (fun z : Int32 × (Nat → Int32) × (Nat → Int32) × (Nat → Nat → Int32) => ([(h, .inr (7, mrG ad))] ++ (stW kk (ad 4) z.2.1 z.2.2.1 z.2.2.2) : va_W)) eS.symm) hP) (vD_eq (congrArg (fun z : Int32 × (Nat → Int32) × (Nat → Int32) × (Nat → Nat → Int32) => ([(h, .inr (7, mrG ad))] ++ (stW kk (ad 4) z.2.1 z.2.2.1 z.2.2.2) : va_W)) eS.symm) hD) hS (congrArg (fun z : Int32 × (Nat → Int32) × (Nat → Int32) × (Nat → Nat → Int32) => z.1) eS) (zb_n (is_z0 _ _ _ _ _)) dX7_doGroup_254
  · refine top_eqV (y := .ref ((ad 4) (3 + k_16))) (by rw [hq_15]; rfl) ?_
    have hk_16 := roomAt_lt hq_15
    have eS := eS.trans (oe_s hq_15)
    refine lv_iload_n hx hb dX7_doGroup_250 rfl (lv_at hl 0 rfl) ?_
    refine k_goI (k_runV (rest := []) (As := [.int (x / 10000), .ref ((ad 4) (3 + k_16)), .int (x - x / 1000 * 1000)]) hx hb hml hown hts hK hP hD hS hA hE hl.1 (c_X7_isSo l G kk h ad g4 u4 rv4 (x / 10000) k_16 (x - x / 1000 * 1000) hk_16) vl_X7_269 rfl rfl rfl ⟨Nat.le_of_ble_eq_true rfl, Nat.le_of_ble_eq_true rfl, rfl, rfl⟩ ([0] ++ (List.range' 1 9)) (by decide +kernel) (mp_b (mp_c rfl mp_nil) (skip_map (m := 1) (n := 0) (sg_Ce st_len) rfl)) ⟨Nat.zero_le _, Nat.zero_le _⟩ rfl (Nat.le_of_ble_eq_true rfl) dX7_doGroup_251) hP hD hS hA ([0] ++ (List.range' 1 9)) (mp_b (mp_c rfl mp_nil) (skip_map (m := 1) (n := 0) (sg_Ce st_len) rfl)) (ads_app ads1 st_ads) (fun H locs hP hD hS => ?_)
    replace hP : va_P G vwCl ([(h, .inr (7, mrG ad))] ++ (stW kk (ad 4) g4 u4 ((sX7_isSo g4 u4 rv4 (x / 10000) k_16 (x - x / 1000 * 1000)).2))) H := vP_eq2 hP (sm_b (ws1 := [(h, .inr (7, mrG ad))] ++ (stW kk (ad 4) g4 u4 rv4)) (sm_c (ws1 := [(h, .inr (7, mrG ad))] ++ (stW kk (ad 4) g4 u4 rv4)) (by exact rfl) rfl) rfl (skip_set (m := 1) (n := 0) (sg_Se st_len st_len) rfl))
    replace hD : va_D A ([(h, .inr (7, mrG ad))] ++ (stW kk (ad 4) g4 u4 ((sX7_isSo g4 u4 rv4 (x / 10000) k_16 (x - x / 1000 * 1000)).2))) := vD_eq2 hD (sm_b (ws1 := [(h, .inr (7, mrG ad))] ++ (stW kk (ad 4) g4 u4 rv4)) (sm_c (ws1 := [(h, .inr (7, mrG ad))] ++ (stW kk (ad 4) g4 u4 rv4)) (by exact rfl) rfl) rfl (skip_set (m := 1) (n := 0) (sg_Se st_len st_len) rfl))
    have eS : sX7_doGroup g4 u4 rv4 x = sX7_doGroup_z_17 g4 u4 rv4 x k_16 (sX7_isSo g4 u4 rv4 (x / 10000) k_16 (x - x / 1000 * 1000)) := eS
    have hz_17 := is_z g4 u4 rv4 (x / 10000) k_16 (x - x / 1000 * 1000)
    generalize sX7_isSo g4 u4 rv4 (x / 10000) k_16 (x - x / 1000 * 1000) = z_17 at hP hD eS hz_17 ⊢
    exact fin_z hx hb hr hlocks hK (vP_eq (congrArg (fun z : Int32 × (Nat → Int32) × (Nat → Int32) × (Nat → Nat → Int32) => ([(h, .inr (7, mrG ad))] ++ (stW kk (ad 4) z.2.1 z.2.2.1 z.2.2.2) : va_W)) eS.symm) hP) (vD_eq (congrArg (fun z : Int32 × (Nat → Int32) × (Nat → Int32) × (Nat → Nat → Int32) => ([(h, .inr (7, mrG ad))] ++ (stW kk (ad 4) z.2.1 z.2.2.1 z.2.2.2) : va_W)) eS.symm) hD) hS ((congrArg (fun z : Int32 × (Nat → Int32) × (Nat → Int32) × (Nat → Nat → Int32) => z.1) eS).trans rfl) (zb_n hz_17) dX7_doGroup_254
