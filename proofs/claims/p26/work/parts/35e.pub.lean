def sX7_warmthIfShut_z_3 (g4 : Nat → Int32) (u4 : Nat → Int32) (rv4 : Nat → Nat → Int32) (g : Nat → Int32) (u : Nat → Int32) (rv : Nat → Nat → Int32) (x : Int32) (z_1 : (Nat → Int32) × (Nat → Int32) × (Nat → Nat → Int32)) (z_2 : Int32 × (Nat → Nat → Int32)) (z_3 : Int32 × (Nat → Int32) × (Nat → Nat → Int32)) : Int32 × (Nat → Int32) × (Nat → Int32) × (Nat → Nat → Int32) :=
  (oe (sX5_roomAt z_3.2.1 z_1.2.1 z_3.2.2 x) (0, z_3.2.1, z_1.2.1, z_3.2.2) (fun k_5 => ((sX2_warmth (z_3.2.2 k_5)), z_3.2.1, z_1.2.1, z_3.2.2)))
def sX7_warmthIfShut_z_2 (g4 : Nat → Int32) (u4 : Nat → Int32) (rv4 : Nat → Nat → Int32) (g : Nat → Int32) (u : Nat → Int32) (rv : Nat → Nat → Int32) (x : Int32) (z_1 : (Nat → Int32) × (Nat → Int32) × (Nat → Nat → Int32)) (z_2 : Int32 × (Nat → Nat → Int32)) : Int32 × (Nat → Int32) × (Nat → Int32) × (Nat → Nat → Int32) :=
  (sX7_warmthIfShut_z_3 g4 u4 rv4 g u rv x z_1 z_2 (sX5_passMinutes z_1.1 z_1.2.1 z_2.2 15))
def sX7_warmthIfShut_z_1 (g4 : Nat → Int32) (u4 : Nat → Int32) (rv4 : Nat → Nat → Int32) (g : Nat → Int32) (u : Nat → Int32) (rv : Nat → Nat → Int32) (x : Int32) (z_1 : (Nat → Int32) × (Nat → Int32) × (Nat → Nat → Int32)) : Int32 × (Nat → Int32) × (Nat → Int32) × (Nat → Nat → Int32) :=
  (sX7_warmthIfShut_z_2 g4 u4 rv4 g u rv x z_1 (sX5_moveDoor z_1.1 z_1.2.1 z_1.2.2 x 0))
def sX7_warmthIfShut (g4 : Nat → Int32) (u4 : Nat → Int32) (rv4 : Nat → Nat → Int32) (g : Nat → Int32) (u : Nat → Int32) (rv : Nat → Nat → Int32) (x : Int32) : Int32 × (Nat → Int32) × (Nat → Int32) × (Nat → Nat → Int32) :=
  (sX7_warmthIfShut_z_1 g4 u4 rv4 g u rv x (sX5_copyFrom g4 u4 rv4 g u rv))
set_option maxRecDepth 100000 in
set_option maxHeartbeats 4000000 in
theorem c_X7_warmthIfShut (l : Launch) (G : va_G) (kk : Nat → ClassId) (h : Nat) (ad : Nat → Nat → Nat) (g4 : Nat → Int32) (u4 : Nat → Int32) (rv4 : Nat → Nat → Int32) (g : Nat → Int32) (u : Nat → Int32) (rv : Nat → Nat → Int32) (x : Int32) (hzb : ∀ i, i < 6 → zb (rv i 5)) : CC l yX7_warmthIfShut cX7_warmthIfShut 3 (some .int) (rmO 5 120) [.ref h, .int x] G kk ([(h, .inr (7, mrG ad))] ++ (stW kk (ad 4) g4 u4 rv4 ++ (stW kk (ad 3) g u rv))) (QI G kk ([(h, .inr (7, mrG ad))] ++ (stW kk (ad 4) ((sX7_warmthIfShut g4 u4 rv4 g u rv x).2.1) ((sX7_warmthIfShut g4 u4 rv4 g u rv x).2.2.1) ((sX7_warmthIfShut g4 u4 rv4 g u rv x).2.2.2) ++ (stW kk (ad 3) g u rv))) ((sX7_warmthIfShut g4 u4 rv4 g u rv x).1)) := by
  refine cc_start (by decide +kernel) (Nat.le_of_ble_eq_true rfl) ?_
  intro p e s m below meth c A ls hx hb hr hml hown hts hlocks hA hE hK hP hD hS hl
  have hown : s.vm.findClass RX7 = some m.cls := hown
  have hl : lv_has ls 3 [(0, .ref h), (1, .int x)] := hl
  have eS : sX7_warmthIfShut g4 u4 rv4 g u rv x = sX7_warmthIfShut g4 u4 rv4 g u rv x := rfl
  refine lv_aload_n hx hb dX7_warmthIfShut_0 rfl (lv_at hl 0 rfl) ?_
  refine r_get (v := .ref ((ad 4) 0)) hx hb hts hown hK hP fl_X7_26 0 rfl rfl dX7_warmthIfShut_1 ?_
  refine lv_aload_n hx hb dX7_warmthIfShut_4 rfl (lv_at hl 0 rfl) ?_
  refine r_get (v := .ref ((ad 3) 0)) hx hb hts hown hK hP fl_X7_23 0 rfl rfl dX7_warmthIfShut_5 ?_
  refine k_goV (k_runV (rest := []) (As := [.ref ((ad 3) 0)]) hx hb hml hown hts hK hP hD hS hA hE hl.1 (c_X5_copyFrom l G kk (ad 4) (ad 3) g4 u4 rv4 g u rv hzb) vl_X7_81 rfl rfl rfl ⟨Nat.le_of_ble_eq_true rfl, Nat.le_of_ble_eq_true rfl, rfl, rfl⟩ (List.range' 1 9 ++ (List.range' 10 9)) (by decide +kernel) (mp_b (skip_map (m := 1) (n := 0) (sg_C st_len) rfl) (skip_map (m := 1) (n := 9) (skip_map (m := 9) (n := 0) (sg_Ce st_len) st_len) rfl)) ⟨Nat.zero_le _, Nat.zero_le _⟩ rfl (Nat.le_of_ble_eq_true rfl) dX7_warmthIfShut_8) hP hD hS hA (List.range' 1 9 ++ (List.range' 10 9)) (mp_b (skip_map (m := 1) (n := 0) (sg_C st_len) rfl) (skip_map (m := 1) (n := 9) (skip_map (m := 9) (n := 0) (sg_Ce st_len) st_len) rfl)) (ads_app st_ads st_ads) (fun H locs hP hD hS => ?_)
  replace hP : va_P G vwCl ([(h, .inr (7, mrG ad))] ++ (stW kk (ad 4) ((sX5_copyFrom g4 u4 rv4 g u rv).1) ((sX5_copyFrom g4 u4 rv4 g u rv).2.1) ((sX5_copyFrom g4 u4 rv4 g u rv).2.2) ++ (stW kk (ad 3) g u rv))) H := vP_eq2 hP (sm_b (ws1 := [(h, .inr (7, mrG ad))] ++ (stW kk (ad 4) ((sX5_copyFrom g4 u4 rv4 g u rv).1) ((sX5_copyFrom g4 u4 rv4 g u rv).2.1) ((sX5_copyFrom g4 u4 rv4 g u rv).2.2) ++ (stW kk (ad 3) g u rv))) (skip_set (m := 1) (n := 0) (sg_S st_len st_len) rfl) rl_st (skip_set (m := 1) (n := 9) (skip_set (m := 9) (n := 0) (sg_Se st_len st_len) st_len) rfl))
  replace hD : va_D A ([(h, .inr (7, mrG ad))] ++ (stW kk (ad 4) ((sX5_copyFrom g4 u4 rv4 g u rv).1) ((sX5_copyFrom g4 u4 rv4 g u rv).2.1) ((sX5_copyFrom g4 u4 rv4 g u rv).2.2) ++ (stW kk (ad 3) g u rv))) := vD_eq2 hD (sm_b (ws1 := [(h, .inr (7, mrG ad))] ++ (stW kk (ad 4) ((sX5_copyFrom g4 u4 rv4 g u rv).1) ((sX5_copyFrom g4 u4 rv4 g u rv).2.1) ((sX5_copyFrom g4 u4 rv4 g u rv).2.2) ++ (stW kk (ad 3) g u rv))) (skip_set (m := 1) (n := 0) (sg_S st_len st_len) rfl) rl_st (skip_set (m := 1) (n := 9) (skip_set (m := 9) (n := 0) (sg_Se st_len st_len) st_len) rfl))
  have eS : sX7_warmthIfShut g4 u4 rv4 g u rv x = sX7_warmthIfShut_z_1 g4 u4 rv4 g u rv x (sX5_copyFrom g4 u4 rv4 g u rv) := eS
  generalize sX5_copyFrom g4 u4 rv4 g u rv = z_1 at hP hD eS ⊢
  refine lv_aload_n hx hb dX7_warmthIfShut_11 rfl (lv_at hl 0 rfl) ?_
  refine r_get (v := .ref ((ad 4) 0)) hx hb hts hown hK hP fl_X7_26 0 rfl rfl dX7_warmthIfShut_12 ?_
  refine lv_iload_n hx hb dX7_warmthIfShut_15 rfl (lv_at hl 1 rfl) ?_
  refine lv_iconst (v := 0) hx hb dX7_warmthIfShut_16 (by decide) ?_
  refine k_goI (k_runV (rest := []) (As := [.int x, .int 0]) hx hb hml hown hts hK hP hD hS hA hE hl.1 (c_X5_moveDoor l G kk (ad 4) z_1.1 z_1.2.1 z_1.2.2 x 0 (by first | exact zb_0 | exact zb_1)) vl_X7_116 rfl rfl rfl ⟨Nat.le_of_ble_eq_true rfl, Nat.le_of_ble_eq_true rfl, rfl, rfl⟩ (List.range' 1 9) (by decide +kernel) (skip_map (m := 1) (n := 0) (sg_C st_len) rfl) ⟨Nat.zero_le _, Nat.zero_le _⟩ rfl (Nat.le_of_ble_eq_true rfl) dX7_warmthIfShut_17) hP hD hS hA (List.range' 1 9) (skip_map (m := 1) (n := 0) (sg_C st_len) rfl) st_ads (fun H locs hP hD hS => ?_)
  replace hP : va_P G vwCl ([(h, .inr (7, mrG ad))] ++ (stW kk (ad 4) z_1.1 z_1.2.1 ((sX5_moveDoor z_1.1 z_1.2.1 z_1.2.2 x 0).2) ++ (stW kk (ad 3) g u rv))) H := vP_eq2 hP (skip_set (m := 1) (n := 0) (sg_S st_len st_len) rfl)
  replace hD : va_D A ([(h, .inr (7, mrG ad))] ++ (stW kk (ad 4) z_1.1 z_1.2.1 ((sX5_moveDoor z_1.1 z_1.2.1 z_1.2.2 x 0).2) ++ (stW kk (ad 3) g u rv))) := vD_eq2 hD (skip_set (m := 1) (n := 0) (sg_S st_len st_len) rfl)
  have eS : sX7_warmthIfShut g4 u4 rv4 g u rv x = sX7_warmthIfShut_z_2 g4 u4 rv4 g u rv x z_1 (sX5_moveDoor z_1.1 z_1.2.1 z_1.2.2 x 0) := eS
  generalize sX5_moveDoor z_1.1 z_1.2.1 z_1.2.2 x 0 = z_2 at hP hD eS ⊢
  refine lv_pop hx hb dX7_warmthIfShut_20 rfl ?_
  refine lv_aload_n hx hb dX7_warmthIfShut_21 rfl (lv_at hl 0 rfl) ?_
  refine r_get (v := .ref ((ad 4) 0)) hx hb hts hown hK hP fl_X7_26 0 rfl rfl dX7_warmthIfShut_22 ?_
  refine lv_bipush (v := 15) hx hb dX7_warmthIfShut_25 (by decide) ?_
  refine k_goI (k_runV (rest := []) (As := [.int 15]) hx hb hml hown hts hK hP hD hS hA hE hl.1 (c_X5_passMinutes l G kk (ad 4) z_1.1 z_1.2.1 z_2.2 15 ) vl_X7_120 rfl rfl rfl ⟨Nat.le_of_ble_eq_true rfl, Nat.le_of_ble_eq_true rfl, rfl, rfl⟩ (List.range' 1 9) (by decide +kernel) (skip_map (m := 1) (n := 0) (sg_C st_len) rfl) ⟨Nat.zero_le _, Nat.zero_le _⟩ rfl (Nat.le_of_ble_eq_true rfl) dX7_warmthIfShut_27) hP hD hS hA (List.range' 1 9) (skip_map (m := 1) (n := 0) (sg_C st_len) rfl) st_ads (fun H locs hP hD hS => ?_)
  replace hP : va_P G vwCl ([(h, .inr (7, mrG ad))] ++ (stW kk (ad 4) ((sX5_passMinutes z_1.1 z_1.2.1 z_2.2 15).2.1) z_1.2.1 ((sX5_passMinutes z_1.1 z_1.2.1 z_2.2 15).2.2) ++ (stW kk (ad 3) g u rv))) H := vP_eq2 hP (skip_set (m := 1) (n := 0) (sg_S st_len st_len) rfl)
  replace hD : va_D A ([(h, .inr (7, mrG ad))] ++ (stW kk (ad 4) ((sX5_passMinutes z_1.1 z_1.2.1 z_2.2 15).2.1) z_1.2.1 ((sX5_passMinutes z_1.1 z_1.2.1 z_2.2 15).2.2) ++ (stW kk (ad 3) g u rv))) := vD_eq2 hD (skip_set (m := 1) (n := 0) (sg_S st_len st_len) rfl)
  have eS : sX7_warmthIfShut g4 u4 rv4 g u rv x = sX7_warmthIfShut_z_3 g4 u4 rv4 g u rv x z_1 z_2 (sX5_passMinutes z_1.1 z_1.2.1 z_2.2 15) := eS
  generalize sX5_passMinutes z_1.1 z_1.2.1 z_2.2 15 = z_3 at hP hD eS ⊢
  refine lv_pop hx hb dX7_warmthIfShut_30 rfl ?_
  refine lv_aload_n hx hb dX7_warmthIfShut_31 rfl (lv_at hl 0 rfl) ?_
  refine r_get (v := .ref ((ad 4) 0)) hx hb hts hown hK hP fl_X7_26 0 rfl rfl dX7_warmthIfShut_32 ?_
  refine lv_iload_n hx hb dX7_warmthIfShut_35 rfl (lv_at hl 1 rfl) ?_
  refine k_goQ (k_runV (rest := []) (As := [.int x]) hx hb hml hown hts hK hP hD hS hA hE hl.1 (c_X5_roomAt l G kk (ad 4) z_3.2.1 z_1.2.1 z_3.2.2 x ) vl_X7_133 rfl rfl rfl ⟨Nat.le_of_ble_eq_true rfl, Nat.le_of_ble_eq_true rfl, rfl, rfl⟩ (List.range' 1 9) (by decide +kernel) (skip_map (m := 1) (n := 0) (sg_C st_len) rfl) ⟨Nat.zero_le _, Nat.zero_le _⟩ rfl (Nat.le_of_ble_eq_true rfl) dX7_warmthIfShut_36) hP hD hS hA (List.range' 1 9) (skip_map (m := 1) (n := 0) (sg_C st_len) rfl) st_ads (fun H locs hP hD hS => ?_)
  replace hP : va_P G vwCl ([(h, .inr (7, mrG ad))] ++ (stW kk (ad 4) z_3.2.1 z_1.2.1 z_3.2.2 ++ (stW kk (ad 3) g u rv))) H := vP_eq2 hP (sm_same (skip_map (m := 1) (n := 0) (sg_C st_len) rfl))
  replace hD : va_D A ([(h, .inr (7, mrG ad))] ++ (stW kk (ad 4) z_3.2.1 z_1.2.1 z_3.2.2 ++ (stW kk (ad 3) g u rv))) := vD_eq2 hD (sm_same (skip_map (m := 1) (n := 0) (sg_C st_len) rfl))
  rcases opt_or ((sX5_roomAt z_3.2.1 z_1.2.1 z_3.2.2 x)) with hq_4 | ⟨k_5, hq_4⟩
  · refine top_eqV (y := .null) (by rw [hq_4]; rfl) ?_
    have eS := eS.trans (oe_n hq_4)
    refine lv_astore_nN (lv' := [(2, .null), (0, .ref h), (1, .int x)]) hx hb dX7_warmthIfShut_39 rfl hl (by decide) rfl (fun ls hl => ?_)
    refine lv_aload_nN hx hb dX7_warmthIfShut_40 rfl (lv_at hl 0 rfl) ?_
    refine lv_ifnonnullN hx hb dX7_warmthIfShut_41 ?_
    refine lv_iconst (v := 0) hx hb dX7_warmthIfShut_44 (by decide) ?_
    refine lv_goto (tgt := 52) hx hb dX7_warmthIfShut_45 (by decide) ?_
    exact fin_i hx hb hr hlocks hK (vP_eq (congrArg (fun z : Int32 × (Nat → Int32) × (Nat → Int32) × (Nat → Nat → Int32) => ([(h, .inr (7, mrG ad))] ++ (stW kk (ad 4) z.2.1 z.2.2.1 z.2.2.2 ++ (stW kk (ad 3) g u rv)) : va_W)) eS.symm) hP) (vD_eq (congrArg (fun z : Int32 × (Nat → Int32) × (Nat → Int32) × (Nat → Nat → Int32) => ([(h, .inr (7, mrG ad))] ++ (stW kk (ad 4) z.2.1 z.2.2.1 z.2.2.2 ++ (stW kk (ad 3) g u rv)) : va_W)) eS.symm) hD) hS (congrArg (fun z : Int32 × (Nat → Int32) × (Nat → Int32) × (Nat → Nat → Int32) => z.1) eS) dX7_warmthIfShut_52
  · refine top_eqV (y := .ref ((ad 4) (3 + k_5))) (by rw [hq_4]; rfl) ?_
    have hk_5 := roomAt_lt hq_4
    have eS := eS.trans (oe_s hq_4)
    refine lv_astore_n (lv' := [(2, .ref ((ad 4) (3 + k_5))), (0, .ref h), (1, .int x)]) hx hb dX7_warmthIfShut_39 rfl hl (by decide) rfl (fun ls hl => ?_)
    refine lv_aload_n hx hb dX7_warmthIfShut_40 rfl (lv_at hl 0 rfl) ?_
    refine lv_ifnonnull (tgt := 48) hx hb dX7_warmthIfShut_41 (by decide) ?_
    refine lv_aload_n hx hb dX7_warmthIfShut_48 rfl (lv_at hl 0 rfl) ?_
    refine k_goI (k_runV (rest := []) (As := []) hx hb hml hown hts hK hP hD hS hA hE hl.1 (c_X2_warmth l G kk ((ad 4) (3 + k_5)) (z_3.2.2 k_5) ) vl_X7_255 rfl rfl rfl ⟨Nat.le_of_ble_eq_true rfl, Nat.le_of_ble_eq_true rfl, rfl, rfl⟩ ([1 + (3 + k_5)]) (nd1 _) (mp_c (sk_get (m := 1) (n := 3 + k_5) (st_atP hk_5) rfl) mp_nil) ⟨Nat.zero_le _, Nat.zero_le _⟩ rfl (Nat.le_of_ble_eq_true rfl) dX7_warmthIfShut_49) hP hD hS hA ([1 + (3 + k_5)]) (mp_c (sk_get (m := 1) (n := 3 + k_5) (st_atP hk_5) rfl) mp_nil) ads1 (fun H locs hP hD hS => ?_)
    replace hP : va_P G vwCl ([(h, .inr (7, mrG ad))] ++ (stW kk (ad 4) z_3.2.1 z_1.2.1 z_3.2.2 ++ (stW kk (ad 3) g u rv))) H := vP_eq2 hP (sm_same (mp_c (sk_get (m := 1) (n := 3 + k_5) (st_atP hk_5) rfl) mp_nil))
    replace hD : va_D A ([(h, .inr (7, mrG ad))] ++ (stW kk (ad 4) z_3.2.1 z_1.2.1 z_3.2.2 ++ (stW kk (ad 3) g u rv))) := vD_eq2 hD (sm_same (mp_c (sk_get (m := 1) (n := 3 + k_5) (st_atP hk_5) rfl) mp_nil))
    exact fin_i hx hb hr hlocks hK (vP_eq (congrArg (fun z : Int32 × (Nat → Int32) × (Nat → Int32) × (Nat → Nat → Int32) => ([(h, .inr (7, mrG ad))] ++ (stW kk (ad 4) z.2.1 z.2.2.1 z.2.2.2 ++ (stW kk (ad 3) g u rv)) : va_W)) eS.symm) hP) (vD_eq (congrArg (fun z : Int32 × (Nat → Int32) × (Nat → Int32) × (Nat → Nat → Int32) => ([(h, .inr (7, mrG ad))] ++ (stW kk (ad 4) z.2.1 z.2.2.1 z.2.2.2 ++ (stW kk (ad 3) g u rv)) : va_W)) eS.symm) hD) hS (congrArg (fun z : Int32 × (Nat → Int32) × (Nat → Int32) × (Nat → Nat → Int32) => z.1) eS) dX7_warmthIfShut_52
def lp_X7_bestShut_6 (g4 : Nat → Int32) (u4 : Nat → Int32) (rv4 : Nat → Nat → Int32) (g : Nat → Int32) (u : Nat → Int32) (rv : Nat → Nat → Int32) : Nat → Nat → Int32 → Int32 → (Nat → Int32) → (Nat → Int32) → (Nat → Nat → Int32) → Int32 × (Nat → Int32) × (Nat → Int32) × (Nat → Nat → Int32)
  | 0, i, w, lw, g1, u1, rv1 => (w, g1, u1, rv1)
  | d + 1, i, w, lw, g1, u1, rv1 => (oe (sX5_roomAt g u rv (nI i)) (lp_X7_bestShut_6 g4 u4 rv4 g u rv d (i + 1) w lw g1 u1 rv1) (fun k_2 => (if ((rv k_2) 5) = 0 then (lp_X7_bestShut_6 g4 u4 rv4 g u rv d (i + 1) w lw g1 u1 rv1) else ((fun (z_3 : Int32 × (Nat → Int32) × (Nat → Int32) × (Nat → Nat → Int32)) => (if w = (-1) then (lp_X7_bestShut_6 g4 u4 rv4 g u rv d (i + 1) (nI i) z_3.1 z_3.2.1 z_3.2.2.1 z_3.2.2.2) else (if lw ≤ z_3.1 then (lp_X7_bestShut_6 g4 u4 rv4 g u rv d (i + 1) w lw z_3.2.1 z_3.2.2.1 z_3.2.2.2) else (lp_X7_bestShut_6 g4 u4 rv4 g u rv d (i + 1) (nI i) z_3.1 z_3.2.1 z_3.2.2.1 z_3.2.2.2)))) (sX7_warmthIfShut g1 u1 rv1 g u rv (nI i))))))
def sX7_bestShut (g4 : Nat → Int32) (u4 : Nat → Int32) (rv4 : Nat → Nat → Int32) (g : Nat → Int32) (u : Nat → Int32) (rv : Nat → Nat → Int32) : Int32 × (Nat → Int32) × (Nat → Int32) × (Nat → Nat → Int32) :=
  (lp_X7_bestShut_6 g4 u4 rv4 g u rv 6 0 (-1) 0 g4 u4 rv4)
set_option maxRecDepth 100000 in
set_option maxHeartbeats 4000000 in
theorem c_X7_bestShut (l : Launch) (G : va_G) (kk : Nat → ClassId) (h : Nat) (ad : Nat → Nat → Nat) (g4 : Nat → Int32) (u4 : Nat → Int32) (rv4 : Nat → Nat → Int32) (g : Nat → Int32) (u : Nat → Int32) (rv : Nat → Nat → Int32) (hzb : ∀ i, i < 6 → zb (rv i 5)) : CC l yX7_bestShut cX7_bestShut 6 (some .int) (rmO 6 142) [.ref h] G kk ([(h, .inr (7, mrG ad))] ++ (stW kk (ad 4) g4 u4 rv4 ++ (stW kk (ad 3) g u rv))) (QI G kk ([(h, .inr (7, mrG ad))] ++ (stW kk (ad 4) ((sX7_bestShut g4 u4 rv4 g u rv).2.1) ((sX7_bestShut g4 u4 rv4 g u rv).2.2.1) ((sX7_bestShut g4 u4 rv4 g u rv).2.2.2) ++ (stW kk (ad 3) g u rv))) ((sX7_bestShut g4 u4 rv4 g u rv).1)) := by
  refine cc_start (by decide +kernel) (Nat.le_of_ble_eq_true rfl) ?_
  intro p e s m below meth c A ls hx hb hr hml hown hts hlocks hA hE hK hP hD hS hl
  have hown : s.vm.findClass RX7 = some m.cls := hown
  have hl : lv_has ls 6 [(0, .ref h)] := hl
  have eS : sX7_bestShut g4 u4 rv4 g u rv = sX7_bestShut g4 u4 rv4 g u rv := rfl
  refine lv_iconst (v := (-1)) hx hb dX7_bestShut_0 (by decide) ?_
  refine lv_istore_n (lv' := [(1, .int (-1)), (0, .ref h)]) hx hb dX7_bestShut_1 rfl hl (by decide) rfl (fun ls hl => ?_)
  refine lv_iconst (v := 0) hx hb dX7_bestShut_2 (by decide) ?_
  refine lv_istore_n (lv' := [(2, .int 0), (1, .int (-1)), (0, .ref h)]) hx hb dX7_bestShut_3 rfl hl (by decide) rfl (fun ls hl => ?_)
  refine lv_iconst (v := 0) hx hb dX7_bestShut_4 (by decide) ?_
  refine lv_istore_n (lv' := [(3, .int 0), (2, .int 0), (1, .int (-1)), (0, .ref h)]) hx hb dX7_bestShut_5 rfl hl (by decide) rfl (fun ls hl => ?_)
  have L_4 : ∀ (d : Nat) (i : Nat) (w : Int32) (lw : Int32) (g1 : Nat → Int32) (u1 : Nat → Int32) (rv1 : Nat → Nat → Int32) (hd : i + d = 6) (eS : sX7_bestShut g4 u4 rv4 g u rv = lp_X7_bestShut_6 g4 u4 rv4 g u rv d i w lw g1 u1 rv1) (H : Heap) (locs : List Loc) (ls : Array Slot) (hP : va_P G vwCl ([(h, .inr (7, mrG ad))] ++ (stW kk (ad 4) g1 u1 rv1 ++ (stW kk (ad 3) g u rv))) H) (hD : va_D A ([(h, .inr (7, mrG ad))] ++ (stW kk (ad 4) g1 u1 rv1 ++ (stW kk (ad 3) g u rv)))) (hS : va_S A s.heap H locs) (hl : lv_has ls 6 [(0, .ref h), (3, .int (nI i)), (1, .int w), (2, .int lw)]), GO p l e (rmO 6 142) s m ([.ref h] : List Value).toArray below meth c A (QI G kk ([(h, .inr (7, mrG ad))] ++ (stW kk (ad 4) ((sX7_bestShut g4 u4 rv4 g u rv).2.1) ((sX7_bestShut g4 u4 rv4 g u rv).2.2.1) ((sX7_bestShut g4 u4 rv4 g u rv).2.2.2) ++ (stW kk (ad 3) g u rv))) ((sX7_bestShut g4 u4 rv4 g u rv).1)) H locs (F0 m 6 ls []) := by
    intro d
    induction d with
    | zero =>
      intro i w lw g1 u1 rv1 hd eS H locs ls hP hD hS hl
      refine lv_iload_n hx hb dX7_bestShut_6 rfl (lv_at hl 1 rfl) ?_
      refine lv_bipush (v := 6) hx hb dX7_bestShut_7 (by decide) ?_
      refine lv_icmp_ge (tgt := 67) hx hb dX7_bestShut_9 (by decide) (fun c_9 => ?_) (fun c_9 => absurd (nI_le (a := 6) (b := i) (by omega) (by omega)) c_9)
      refine lv_iload_n hx hb dX7_bestShut_67 rfl (lv_at hl 2 rfl) ?_
      exact fin_i hx hb hr hlocks hK (vP_eq (congrArg (fun z : Int32 × (Nat → Int32) × (Nat → Int32) × (Nat → Nat → Int32) => ([(h, .inr (7, mrG ad))] ++ (stW kk (ad 4) z.2.1 z.2.2.1 z.2.2.2 ++ (stW kk (ad 3) g u rv)) : va_W)) eS.symm) hP) (vD_eq (congrArg (fun z : Int32 × (Nat → Int32) × (Nat → Int32) × (Nat → Nat → Int32) => ([(h, .inr (7, mrG ad))] ++ (stW kk (ad 4) z.2.1 z.2.2.1 z.2.2.2 ++ (stW kk (ad 3) g u rv)) : va_W)) eS.symm) hD) hS (congrArg (fun z : Int32 × (Nat → Int32) × (Nat → Int32) × (Nat → Nat → Int32) => z.1) eS) dX7_bestShut_68
    | succ d ih =>
      intro i w lw g1 u1 rv1 hd eS H locs ls hP hD hS hl
      refine lv_iload_n hx hb dX7_bestShut_6 rfl (lv_at hl 1 rfl) ?_
      refine lv_bipush (v := 6) hx hb dX7_bestShut_7 (by decide) ?_
      refine lv_icmp_ge (tgt := 67) hx hb dX7_bestShut_9 (by decide) (fun c_9 => absurd c_9 (nI_ge (a := i) (b := 6) (by omega) (by omega))) (fun c_9 => ?_)
      refine lv_aload_n hx hb dX7_bestShut_12 rfl (lv_at hl 0 rfl) ?_
      refine r_get (v := .ref ((ad 3) 0)) hx hb hts hown hK hP fl_X7_23 0 rfl rfl dX7_bestShut_13 ?_
      refine lv_iload_n hx hb dX7_bestShut_16 rfl (lv_at hl 1 rfl) ?_
      refine k_goQ (k_runV (rest := []) (As := [.int (nI i)]) hx hb hml hown hts hK hP hD hS hA hE hl.1 (c_X5_roomAt l G kk (ad 3) g u rv (nI i) ) vl_X7_133 rfl rfl rfl ⟨Nat.le_of_ble_eq_true rfl, Nat.le_of_ble_eq_true rfl, rfl, rfl⟩ (List.range' 10 9) (by decide +kernel) (skip_map (m := 1) (n := 9) (skip_map (m := 9) (n := 0) (sg_Ce st_len) st_len) rfl) ⟨Nat.zero_le _, Nat.zero_le _⟩ rfl (Nat.le_of_ble_eq_true rfl) dX7_bestShut_17) hP hD hS hA (List.range' 10 9) (skip_map (m := 1) (n := 9) (skip_map (m := 9) (n := 0) (sg_Ce st_len) st_len) rfl) st_ads (fun H locs hP hD hS => ?_)
      replace hP : va_P G vwCl ([(h, .inr (7, mrG ad))] ++ (stW kk (ad 4) g1 u1 rv1 ++ (stW kk (ad 3) g u rv))) H := vP_eq2 hP (sm_same (skip_map (m := 1) (n := 9) (skip_map (m := 9) (n := 0) (sg_Ce st_len) st_len) rfl))
      replace hD : va_D A ([(h, .inr (7, mrG ad))] ++ (stW kk (ad 4) g1 u1 rv1 ++ (stW kk (ad 3) g u rv))) := vD_eq2 hD (sm_same (skip_map (m := 1) (n := 9) (skip_map (m := 9) (n := 0) (sg_Ce st_len) st_len) rfl))
      rcases opt_or ((sX5_roomAt g u rv (nI i))) with hq_1 | ⟨k_2, hq_1⟩
      · refine top_eqV (y := .null) (by rw [hq_1]; rfl) ?_
        have eS := eS.trans (oe_n hq_1)
        refine lv_astoreN (lv' := [(4, .null), (0, .ref h), (3, .int (nI i)), (1, .int w), (2, .int lw)]) hx hb dX7_bestShut_20 hl (by decide) rfl (fun ls hl => ?_)
        refine lv_aloadN hx hb dX7_bestShut_22 (lv_at hl 0 rfl) ?_
        refine lv_ifnullN (tgt := 61) hx hb dX7_bestShut_24 (by decide) ?_
        refine lv_iinc (v := (nI (i + 1))) (lv' := [(3, .int (nI (i + 1))), (4, .null), (0, .ref h), (1, .int w), (2, .int lw)]) hx hb dX7_bestShut_61 hl (k := 2) rfl (nI_add i 1) (by decide) rfl (fun ls hl => ?_)
        refine lv_goto (tgt := 6) hx hb dX7_bestShut_64 (by decide) ?_
        exact ih (i + 1) w lw g1 u1 rv1 (by omega) eS _ _ ls hP hD hS (lv_sub hl [2, 0, 3, 4] rfl)
      · refine top_eqV (y := .ref ((ad 3) (3 + k_2))) (by rw [hq_1]; rfl) ?_
        have hk_2 := roomAt_lt hq_1
        have eS := eS.trans (oe_s hq_1)
        refine lv_astore (lv' := [(4, .ref ((ad 3) (3 + k_2))), (0, .ref h), (3, .int (nI i)), (1, .int w), (2, .int lw)]) hx hb dX7_bestShut_20 hl (by decide) rfl (fun ls hl => ?_)
        refine lv_aload hx hb dX7_bestShut_22 (lv_at hl 0 rfl) ?_
        refine lv_ifnull hx hb dX7_bestShut_24 ?_
        refine lv_aload hx hb dX7_bestShut_27 (lv_at hl 0 rfl) ?_
        refine r_getN (v := .int ((rv k_2) 5)) hE hx hb hts hown hK hP fn_X7_248 (1 + (9 + (3 + k_2))) (sk_get (m := 1) (n := 9 + (3 + k_2)) (sk_get (m := 9) (n := 3 + k_2) (st_at hk_2) st_len) rfl) rfl dX7_bestShut_29 ?_
        refine lv_if_ne (tgt := 38) hx hb dX7_bestShut_32 (by decide) (fun c_32 => ?_) (fun c_32 => ?_)
        · have eS := eS.trans (if_neg c_32)
          refine lv_aload_n hx hb dX7_bestShut_38 rfl (lv_at hl 1 rfl) ?_
          refine lv_iload_n hx hb dX7_bestShut_39 rfl (lv_at hl 2 rfl) ?_
          refine k_goI (k_runV (rest := []) (As := [.int (nI i)]) hx hb hml hown hts hK hP hD hS hA hE hl.1 (c_X7_warmthIfShut l G kk h ad g1 u1 rv1 g u rv (nI i) hzb) vl_X7_252 rfl rfl rfl ⟨Nat.le_of_ble_eq_true rfl, Nat.le_of_ble_eq_true rfl, rfl, rfl⟩ ([0] ++ (List.range' 1 9 ++ (List.range' 10 9))) (by decide +kernel) (mp_b (mp_c rfl mp_nil) (mp_b (skip_map (m := 1) (n := 0) (sg_C st_len) rfl) (skip_map (m := 1) (n := 9) (skip_map (m := 9) (n := 0) (sg_Ce st_len) st_len) rfl))) ⟨Nat.zero_le _, Nat.zero_le _⟩ rfl (Nat.le_of_ble_eq_true rfl) dX7_bestShut_40) hP hD hS hA ([0] ++ (List.range' 1 9 ++ (List.range' 10 9))) (mp_b (mp_c rfl mp_nil) (mp_b (skip_map (m := 1) (n := 0) (sg_C st_len) rfl) (skip_map (m := 1) (n := 9) (skip_map (m := 9) (n := 0) (sg_Ce st_len) st_len) rfl))) (ads_app ads1 (ads_app st_ads st_ads)) (fun H locs hP hD hS => ?_)
          replace hP : va_P G vwCl ([(h, .inr (7, mrG ad))] ++ (stW kk (ad 4) ((sX7_warmthIfShut g1 u1 rv1 g u rv (nI i)).2.1) ((sX7_warmthIfShut g1 u1 rv1 g u rv (nI i)).2.2.1) ((sX7_warmthIfShut g1 u1 rv1 g u rv (nI i)).2.2.2) ++ (stW kk (ad 3) g u rv))) H := vP_eq2 hP (sm_b (ws1 := [(h, .inr (7, mrG ad))] ++ (stW kk (ad 4) g1 u1 rv1 ++ (stW kk (ad 3) g u rv))) (sm_c (ws1 := [(h, .inr (7, mrG ad))] ++ (stW kk (ad 4) g1 u1 rv1 ++ (stW kk (ad 3) g u rv))) (by exact rfl) rfl) rfl (sm_b (ws1 := [(h, .inr (7, mrG ad))] ++ (stW kk (ad 4) ((sX7_warmthIfShut g1 u1 rv1 g u rv (nI i)).2.1) ((sX7_warmthIfShut g1 u1 rv1 g u rv (nI i)).2.2.1) ((sX7_warmthIfShut g1 u1 rv1 g u rv (nI i)).2.2.2) ++ (stW kk (ad 3) g u rv))) (skip_set (m := 1) (n := 0) (sg_S st_len st_len) rfl) rl_st (skip_set (m := 1) (n := 9) (skip_set (m := 9) (n := 0) (sg_Se st_len st_len) st_len) rfl)))
          replace hD : va_D A ([(h, .inr (7, mrG ad))] ++ (stW kk (ad 4) ((sX7_warmthIfShut g1 u1 rv1 g u rv (nI i)).2.1) ((sX7_warmthIfShut g1 u1 rv1 g u rv (nI i)).2.2.1) ((sX7_warmthIfShut g1 u1 rv1 g u rv (nI i)).2.2.2) ++ (stW kk (ad 3) g u rv))) := vD_eq2 hD (sm_b (ws1 := [(h, .inr (7, mrG ad))] ++ (stW kk (ad 4) g1 u1 rv1 ++ (stW kk (ad 3) g u rv))) (sm_c (ws1 := [(h, .inr (7, mrG ad))] ++ (stW kk (ad 4) g1 u1 rv1 ++ (stW kk (ad 3) g u rv))) (by exact rfl) rfl) rfl (sm_b (ws1 := [(h, .inr (7, mrG ad))] ++ (stW kk (ad 4) ((sX7_warmthIfShut g1 u1 rv1 g u rv (nI i)).2.1) ((sX7_warmthIfShut g1 u1 rv1 g u rv (nI i)).2.2.1) ((sX7_warmthIfShut g1 u1 rv1 g u rv (nI i)).2.2.2) ++ (stW kk (ad 3) g u rv))) (skip_set (m := 1) (n := 0) (sg_S st_len st_len) rfl) rl_st (skip_set (m := 1) (n := 9) (skip_set (m := 9) (n := 0) (sg_Se st_len st_len) st_len) rfl)))
          have eS : sX7_bestShut g4 u4 rv4 g u rv = (fun (z_3 : Int32 × (Nat → Int32) × (Nat → Int32) × (Nat → Nat → Int32)) => (if w = (-1) then (lp_X7_bestShut_6 g4 u4 rv4 g u rv d (i + 1) (nI i) z_3.1 z_3.2.1 z_3.2.2.1 z_3.2.2.2) else (if lw ≤ z_3.1 then (lp_X7_bestShut_6 g4 u4 rv4 g u rv d (i + 1) w lw z_3.2.1 z_3.2.2.1 z_3.2.2.2) else (lp_X7_bestShut_6 g4 u4 rv4 g u rv d (i + 1) (nI i) z_3.1 z_3.2.1 z_3.2.2.1 z_3.2.2.2)))) (sX7_warmthIfShut g1 u1 rv1 g u rv (nI i)) := eS
          generalize sX7_warmthIfShut g1 u1 rv1 g u rv (nI i) = z_3 at hP hD eS ⊢
          refine lv_istore (lv' := [(5, .int z_3.1), (4, .ref ((ad 3) (3 + k_2))), (0, .ref h), (3, .int (nI i)), (1, .int w), (2, .int lw)]) hx hb dX7_bestShut_43 hl (by decide) rfl (fun ls hl => ?_)
          refine lv_iload_n hx hb dX7_bestShut_45 rfl (lv_at hl 4 rfl) ?_
          refine lv_iconst (v := (-1)) hx hb dX7_bestShut_46 (by decide) ?_
          refine lv_icmp_eq (tgt := 56) hx hb dX7_bestShut_47 (by decide) (fun c_47 => ?_) (fun c_47 => ?_)
          · have eS := eS.trans (if_pos c_47)
            refine lv_iload_n hx hb dX7_bestShut_56 rfl (lv_at hl 3 rfl) ?_
            refine lv_istore_n (lv' := [(1, .int (nI i)), (5, .int z_3.1), (4, .ref ((ad 3) (3 + k_2))), (0, .ref h), (3, .int (nI i)), (2, .int lw)]) hx hb dX7_bestShut_57 rfl hl (by decide) rfl (fun ls hl => ?_)
            refine lv_iload hx hb dX7_bestShut_58 (lv_at hl 1 rfl) ?_
            refine lv_istore_n (lv' := [(2, .int z_3.1), (1, .int (nI i)), (5, .int z_3.1), (4, .ref ((ad 3) (3 + k_2))), (0, .ref h), (3, .int (nI i))]) hx hb dX7_bestShut_60 rfl hl (by decide) rfl (fun ls hl => ?_)
            refine lv_iinc (v := (nI (i + 1))) (lv' := [(3, .int (nI (i + 1))), (2, .int z_3.1), (1, .int (nI i)), (5, .int z_3.1), (4, .ref ((ad 3) (3 + k_2))), (0, .ref h)]) hx hb dX7_bestShut_61 hl (k := 5) rfl (nI_add i 1) (by decide) rfl (fun ls hl => ?_)
            refine lv_goto (tgt := 6) hx hb dX7_bestShut_64 (by decide) ?_
            exact ih (i + 1) (nI i) z_3.1 z_3.2.1 z_3.2.2.1 z_3.2.2.2 (by omega) eS _ _ ls hP hD hS (lv_sub hl [5, 0, 2, 1] rfl)
          · have eS := eS.trans (if_neg c_47)
            refine lv_iload hx hb dX7_bestShut_50 (lv_at hl 0 rfl) ?_
            refine lv_iload_n hx hb dX7_bestShut_52 rfl (lv_at hl 5 rfl) ?_
            refine lv_icmp_ge (tgt := 61) hx hb dX7_bestShut_53 (by decide) (fun c_53 => ?_) (fun c_53 => ?_)
            · have eS := eS.trans (if_pos c_53)
              refine lv_iinc (v := (nI (i + 1))) (lv' := [(3, .int (nI (i + 1))), (5, .int z_3.1), (4, .ref ((ad 3) (3 + k_2))), (0, .ref h), (1, .int w), (2, .int lw)]) hx hb dX7_bestShut_61 hl (k := 3) rfl (nI_add i 1) (by decide) rfl (fun ls hl => ?_)
              refine lv_goto (tgt := 6) hx hb dX7_bestShut_64 (by decide) ?_
              exact ih (i + 1) w lw z_3.2.1 z_3.2.2.1 z_3.2.2.2 (by omega) eS _ _ ls hP hD hS (lv_sub hl [3, 0, 4, 5] rfl)
            · have eS := eS.trans (if_neg c_53)
              refine lv_iload_n hx hb dX7_bestShut_56 rfl (lv_at hl 3 rfl) ?_
              refine lv_istore_n (lv' := [(1, .int (nI i)), (5, .int z_3.1), (4, .ref ((ad 3) (3 + k_2))), (0, .ref h), (3, .int (nI i)), (2, .int lw)]) hx hb dX7_bestShut_57 rfl hl (by decide) rfl (fun ls hl => ?_)
              refine lv_iload hx hb dX7_bestShut_58 (lv_at hl 1 rfl) ?_
              refine lv_istore_n (lv' := [(2, .int z_3.1), (1, .int (nI i)), (5, .int z_3.1), (4, .ref ((ad 3) (3 + k_2))), (0, .ref h), (3, .int (nI i))]) hx hb dX7_bestShut_60 rfl hl (by decide) rfl (fun ls hl => ?_)
              refine lv_iinc (v := (nI (i + 1))) (lv' := [(3, .int (nI (i + 1))), (2, .int z_3.1), (1, .int (nI i)), (5, .int z_3.1), (4, .ref ((ad 3) (3 + k_2))), (0, .ref h)]) hx hb dX7_bestShut_61 hl (k := 5) rfl (nI_add i 1) (by decide) rfl (fun ls hl => ?_)
              refine lv_goto (tgt := 6) hx hb dX7_bestShut_64 (by decide) ?_
              exact ih (i + 1) (nI i) z_3.1 z_3.2.1 z_3.2.2.1 z_3.2.2.2 (by omega) eS _ _ ls hP hD hS (lv_sub hl [5, 0, 2, 1] rfl)
        · have eS := eS.trans (if_pos c_32)
          refine lv_goto (tgt := 61) hx hb dX7_bestShut_35 (by decide) ?_
          refine lv_iinc (v := (nI (i + 1))) (lv' := [(3, .int (nI (i + 1))), (4, .ref ((ad 3) (3 + k_2))), (0, .ref h), (1, .int w), (2, .int lw)]) hx hb dX7_bestShut_61 hl (k := 2) rfl (nI_add i 1) (by decide) rfl (fun ls hl => ?_)
          refine lv_goto (tgt := 6) hx hb dX7_bestShut_64 (by decide) ?_
          exact ih (i + 1) w lw g1 u1 rv1 (by omega) eS _ _ ls hP hD hS (lv_sub hl [2, 0, 3, 4] rfl)
  exact L_4 6 0 (-1) 0 g4 u4 rv4 (Nat.zero_add _) eS _ _ ls hP hD hS (lv_sub hl [3, 0, 2, 1] rfl)
