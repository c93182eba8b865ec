def lp_X7_warmIn_36 (g4 : Nat → Int32) (u4 : Nat → Int32) (rv4 : Nat → Nat → Int32) (g : Nat → Int32) (u : Nat → Int32) (rv : Nat → Nat → Int32) (x : Int32) (z_1 : (Nat → Int32) × (Nat → Int32) × (Nat → Nat → Int32)) (k_3 : Nat) : Nat → Nat → (Nat → Int32) → (Nat → Nat → Int32) → Int32 × Int32 × (Nat → Int32) × (Nat → Int32) × (Nat → Nat → Int32)
  | 0, i, g1, rv1 => (if (sX2_isWarm (rv1 k_3)) = 0 then (0, (-1), g1, z_1.2.1, rv1) else (0, (nI i), g1, z_1.2.1, rv1))
  | d + 1, i, g1, rv1 => (if (sX2_isWarm (rv1 k_3)) = 0 then ((fun (z_4 : (Nat → Int32) × (Nat → Nat → Int32)) => (lp_X7_warmIn_36 g4 u4 rv4 g u rv x z_1 k_3 d (i + 1) z_4.1 z_4.2)) (sX5_passMinute g1 z_1.2.1 rv1)) else (if (sX2_isWarm (rv1 k_3)) = 0 then (0, (-1), g1, z_1.2.1, rv1) else (0, (nI i), g1, z_1.2.1, rv1)))
def sX7_warmIn_z_1 (g4 : Nat → Int32) (u4 : Nat → Int32) (rv4 : Nat → Nat → Int32) (g : Nat → Int32) (u : Nat → Int32) (rv : Nat → Nat → Int32) (x : Int32) (z_1 : (Nat → Int32) × (Nat → Int32) × (Nat → Nat → Int32)) : Int32 × Int32 × (Nat → Int32) × (Nat → Int32) × (Nat → Nat → Int32) :=
  (oe (sX5_roomAt z_1.1 z_1.2.1 z_1.2.2 x) (3, 0, z_1.1, z_1.2.1, z_1.2.2) (fun k_3 => (lp_X7_warmIn_36 g4 u4 rv4 g u rv x z_1 k_3 240 0 z_1.1 z_1.2.2)))
def sX7_warmIn (g4 : Nat → Int32) (u4 : Nat → Int32) (rv4 : Nat → Nat → Int32) (g : Nat → Int32) (u : Nat → Int32) (rv : Nat → Nat → Int32) (x : Int32) : Int32 × Int32 × (Nat → Int32) × (Nat → Int32) × (Nat → Nat → Int32) :=
  (sX7_warmIn_z_1 g4 u4 rv4 g u rv x (sX5_copyFrom g4 u4 rv4 g u rv))
set_option maxRecDepth 100000 in
set_option maxHeartbeats 4000000 in
theorem c_X7_warmIn (l : Launch) (hst : l.stackTraces = false) (G : va_G) (kk : Nat → ClassId) (h : Nat) (ad : Nat → Nat → Nat) (g4 : Nat → Int32) (u4 : Nat → Int32) (rv4 : Nat → Nat → Int32) (g : Nat → Int32) (u : Nat → Int32) (rv : Nat → Nat → Int32) (x : Int32) (hzb : ∀ i, i < 6 → zb (rv i 5)) : CX l yX7_warmIn cX7_warmIn 4 (some .int) (rmX 6 98) [.ref h, .int x] G kk ([(h, .inr (7, mrG ad))] ++ (stW kk (ad 4) g4 u4 rv4 ++ (stW kk (ad 3) g u rv))) (QIX G kk ([(h, .inr (7, mrG ad))] ++ (stW kk (ad 4) ((sX7_warmIn g4 u4 rv4 g u rv x).2.2.1) ((sX7_warmIn g4 u4 rv4 g u rv x).2.2.2.1) ((sX7_warmIn g4 u4 rv4 g u rv x).2.2.2.2) ++ (stW kk (ad 3) g u rv))) ((sX7_warmIn g4 u4 rv4 g u rv x).2.1) ((sX7_warmIn g4 u4 rv4 g u rv x).1)) (XKX G kk ([(h, .inr (7, mrG ad))] ++ (stW kk (ad 4) ((sX7_warmIn g4 u4 rv4 g u rv x).2.2.1) ((sX7_warmIn g4 u4 rv4 g u rv x).2.2.2.1) ((sX7_warmIn g4 u4 rv4 g u rv x).2.2.2.2) ++ (stW kk (ad 3) g u rv))) [3] ((sX7_warmIn g4 u4 rv4 g u rv x).1)) := by
  refine cx_start (by decide +kernel) (Nat.le_of_ble_eq_true rfl) ?_
  intro p e s m below meth c A ls hx hb hr hml hown hts hlocks hA hE hK hP hD hS hl hxt
  have hown : s.vm.findClass RX7 = some m.cls := hown
  have hl : lv_has ls 4 [(0, .ref h), (1, .int x)] := hl
  have eS : sX7_warmIn g4 u4 rv4 g u rv x = sX7_warmIn g4 u4 rv4 g u rv x := rfl
  refine lv_aload_n hx hb dX7_warmIn_0 rfl (lv_at hl 0 rfl) ?_
  refine r_get (v := .ref ((ad 4) 0)) hx hb hts hown hK hP fl_X7_26 0 rfl rfl dX7_warmIn_1 ?_
  refine lv_aload_n hx hb dX7_warmIn_4 rfl (lv_at hl 0 rfl) ?_
  refine r_get (v := .ref ((ad 3) 0)) hx hb hts hown hK hP fl_X7_23 0 rfl rfl dX7_warmIn_5 ?_
  refine k_goV (k_runV (rest := []) (As := [.ref ((ad 3) 0)]) hx hb hml hown hts hK hP hD hS hA hE hl.1 (c_X5_copyFrom l G kk (ad 4) (ad 3) g4 u4 rv4 g u rv hzb) vl_X7_81 rfl rfl rfl ⟨Nat.le_of_ble_eq_true rfl, Nat.le_of_ble_eq_true rfl, rfl, rfl⟩ (List.range' 1 9 ++ (List.range' 10 9)) (by decide +kernel) (mp_b (skip_map (m := 1) (n := 0) (sg_C st_len) rfl) (skip_map (m := 1) (n := 9) (skip_map (m := 9) (n := 0) (sg_Ce st_len) st_len) rfl)) ⟨Nat.zero_le _, Nat.zero_le _⟩ rfl (Nat.le_of_ble_eq_true rfl) dX7_warmIn_8) hP hD hS hA (List.range' 1 9 ++ (List.range' 10 9)) (mp_b (skip_map (m := 1) (n := 0) (sg_C st_len) rfl) (skip_map (m := 1) (n := 9) (skip_map (m := 9) (n := 0) (sg_Ce st_len) st_len) rfl)) (ads_app st_ads st_ads) (fun H locs hP hD hS => ?_)
  replace hP : va_P G vwCl ([(h, .inr (7, mrG ad))] ++ (stW kk (ad 4) ((sX5_copyFrom g4 u4 rv4 g u rv).1) ((sX5_copyFrom g4 u4 rv4 g u rv).2.1) ((sX5_copyFrom g4 u4 rv4 g u rv).2.2) ++ (stW kk (ad 3) g u rv))) H := vP_eq2 hP (sm_b (ws1 := [(h, .inr (7, mrG ad))] ++ (stW kk (ad 4) ((sX5_copyFrom g4 u4 rv4 g u rv).1) ((sX5_copyFrom g4 u4 rv4 g u rv).2.1) ((sX5_copyFrom g4 u4 rv4 g u rv).2.2) ++ (stW kk (ad 3) g u rv))) (skip_set (m := 1) (n := 0) (sg_S st_len st_len) rfl) rl_st (skip_set (m := 1) (n := 9) (skip_set (m := 9) (n := 0) (sg_Se st_len st_len) st_len) rfl))
  replace hD : va_D A ([(h, .inr (7, mrG ad))] ++ (stW kk (ad 4) ((sX5_copyFrom g4 u4 rv4 g u rv).1) ((sX5_copyFrom g4 u4 rv4 g u rv).2.1) ((sX5_copyFrom g4 u4 rv4 g u rv).2.2) ++ (stW kk (ad 3) g u rv))) := vD_eq2 hD (sm_b (ws1 := [(h, .inr (7, mrG ad))] ++ (stW kk (ad 4) ((sX5_copyFrom g4 u4 rv4 g u rv).1) ((sX5_copyFrom g4 u4 rv4 g u rv).2.1) ((sX5_copyFrom g4 u4 rv4 g u rv).2.2) ++ (stW kk (ad 3) g u rv))) (skip_set (m := 1) (n := 0) (sg_S st_len st_len) rfl) rl_st (skip_set (m := 1) (n := 9) (skip_set (m := 9) (n := 0) (sg_Se st_len st_len) st_len) rfl))
  have eS : sX7_warmIn g4 u4 rv4 g u rv x = sX7_warmIn_z_1 g4 u4 rv4 g u rv x (sX5_copyFrom g4 u4 rv4 g u rv) := eS
  generalize sX5_copyFrom g4 u4 rv4 g u rv = z_1 at hP hD eS ⊢
  refine lv_aload_n hx hb dX7_warmIn_11 rfl (lv_at hl 0 rfl) ?_
  refine r_get (v := .ref ((ad 4) 0)) hx hb hts hown hK hP fl_X7_26 0 rfl rfl dX7_warmIn_12 ?_
  refine lv_iload_n hx hb dX7_warmIn_15 rfl (lv_at hl 1 rfl) ?_
  refine k_goQ (k_runV (rest := []) (As := [.int x]) hx hb hml hown hts hK hP hD hS hA hE hl.1 (c_X5_roomAt l G kk (ad 4) z_1.1 z_1.2.1 z_1.2.2 x ) vl_X7_133 rfl rfl rfl ⟨Nat.le_of_ble_eq_true rfl, Nat.le_of_ble_eq_true rfl, rfl, rfl⟩ (List.range' 1 9) (by decide +kernel) (skip_map (m := 1) (n := 0) (sg_C st_len) rfl) ⟨Nat.zero_le _, Nat.zero_le _⟩ rfl (Nat.le_of_ble_eq_true rfl) dX7_warmIn_16) hP hD hS hA (List.range' 1 9) (skip_map (m := 1) (n := 0) (sg_C st_len) rfl) st_ads (fun H locs hP hD hS => ?_)
  replace hP : va_P G vwCl ([(h, .inr (7, mrG ad))] ++ (stW kk (ad 4) z_1.1 z_1.2.1 z_1.2.2 ++ (stW kk (ad 3) g u rv))) H := vP_eq2 hP (sm_same (skip_map (m := 1) (n := 0) (sg_C st_len) rfl))
  replace hD : va_D A ([(h, .inr (7, mrG ad))] ++ (stW kk (ad 4) z_1.1 z_1.2.1 z_1.2.2 ++ (stW kk (ad 3) g u rv))) := vD_eq2 hD (sm_same (skip_map (m := 1) (n := 0) (sg_C st_len) rfl))
  rcases opt_or ((sX5_roomAt z_1.1 z_1.2.1 z_1.2.2 x)) with hq_2 | ⟨k_3, hq_2⟩
  · refine top_eqV (y := .null) (by rw [hq_2]; rfl) ?_
    have eS := eS.trans (oe_n hq_2)
    refine lv_astore_nN (lv' := [(2, .null), (0, .ref h), (1, .int x)]) hx hb dX7_warmIn_19 rfl hl (by decide) rfl (fun ls hl => ?_)
    refine lv_aload_nN hx hb dX7_warmIn_20 rfl (lv_at hl 0 rfl) ?_
    refine lv_ifnonnullN hx hb dX7_warmIn_21 ?_
    exact fin_x (k := 3) hst hx hb hown hts hlocks hE hK (vP_eq (congrArg (fun z : Int32 × Int32 × (Nat → Int32) × (Nat → Int32) × (Nat → Nat → Int32) => ([(h, .inr (7, mrG ad))] ++ (stW kk (ad 4) z.2.2.1 z.2.2.2.1 z.2.2.2.2 ++ (stW kk (ad 3) g u rv)) : va_W)) eS.symm) hP) (vD_eq (congrArg (fun z : Int32 × Int32 × (Nat → Int32) × (Nat → Int32) × (Nat → Nat → Int32) => ([(h, .inr (7, mrG ad))] ++ (stW kk (ad 4) z.2.2.1 z.2.2.2.1 z.2.2.2.2 ++ (stW kk (ad 3) g u rv)) : va_W)) eS.symm) hD) hS hl.1 hml hxt tw_3 st_139 ⟨rfl, by decide⟩ (congrArg (fun z : Int32 × Int32 × (Nat → Int32) × (Nat → Int32) × (Nat → Nat → Int32) => z.1) eS) (Nat.le_of_ble_eq_true rfl) (Nat.le_of_ble_eq_true rfl) (Nat.le_refl _) (Nat.le_refl _) dX7_warmIn_24 dX7_warmIn_27 dX7_warmIn_28 dX7_warmIn_30 dX7_warmIn_33
  · refine top_eqV (y := .ref ((ad 4) (3 + k_3))) (by rw [hq_2]; rfl) ?_
    have hk_3 := roomAt_lt hq_2
    have eS := eS.trans (oe_s hq_2)
    refine lv_astore_n (lv' := [(2, .ref ((ad 4) (3 + k_3))), (0, .ref h), (1, .int x)]) hx hb dX7_warmIn_19 rfl hl (by decide) rfl (fun ls hl => ?_)
    refine lv_aload_n hx hb dX7_warmIn_20 rfl (lv_at hl 0 rfl) ?_
    refine lv_ifnonnull (tgt := 34) hx hb dX7_warmIn_21 (by decide) ?_
    refine lv_iconst (v := 0) hx hb dX7_warmIn_34 (by decide) ?_
    refine lv_istore_n (lv' := [(3, .int 0), (2, .ref ((ad 4) (3 + k_3))), (0, .ref h), (1, .int x)]) hx hb dX7_warmIn_35 rfl hl (by decide) rfl (fun ls hl => ?_)
    have L_5 : ∀ (d : Nat) (i : Nat) (g1 : Nat → Int32) (rv1 : Nat → Nat → Int32) (hd : i + d = 240) (eS : sX7_warmIn g4 u4 rv4 g u rv x = lp_X7_warmIn_36 g4 u4 rv4 g u rv x z_1 k_3 d i g1 rv1) (H : Heap) (locs : List Loc) (ls : Array Slot) (hP : va_P G vwCl ([(h, .inr (7, mrG ad))] ++ (stW kk (ad 4) g1 z_1.2.1 rv1 ++ (stW kk (ad 3) g u rv))) H) (hD : va_D A ([(h, .inr (7, mrG ad))] ++ (stW kk (ad 4) g1 z_1.2.1 rv1 ++ (stW kk (ad 3) g u rv)))) (hS : va_S A s.heap H locs) (hl : lv_has ls 4 [(2, .ref ((ad 4) (3 + k_3))), (0, .ref h), (3, .int (nI i))]), GOX p l e (rmX 6 98) s m ([.ref h, .int x] : List Value).toArray below meth c A (QIX G kk ([(h, .inr (7, mrG ad))] ++ (stW kk (ad 4) ((sX7_warmIn g4 u4 rv4 g u rv x).2.2.1) ((sX7_warmIn g4 u4 rv4 g u rv x).2.2.2.1) ((sX7_warmIn g4 u4 rv4 g u rv x).2.2.2.2) ++ (stW kk (ad 3) g u rv))) ((sX7_warmIn g4 u4 rv4 g u rv x).2.1) ((sX7_warmIn g4 u4 rv4 g u rv x).1)) (XKX G kk ([(h, .inr (7, mrG ad))] ++ (stW kk (ad 4) ((sX7_warmIn g4 u4 rv4 g u rv x).2.2.1) ((sX7_warmIn g4 u4 rv4 g u rv x).2.2.2.1) ((sX7_warmIn g4 u4 rv4 g u rv x).2.2.2.2) ++ (stW kk (ad 3) g u rv))) [3] ((sX7_warmIn g4 u4 rv4 g u rv x).1)) H locs (F0 m 36 ls []) := by
      intro d
      induction d with
      | zero =>
        intro i g1 rv1 hd eS H locs ls hP hD hS hl
        refine lv_iload_n hx hb dX7_warmIn_36 rfl (lv_at hl 2 rfl) ?_
        refine lv_sipush (v := 240) hx hb dX7_warmIn_37 (by decide) ?_
        refine lv_icmp_ge (tgt := 63) hx hb dX7_warmIn_40 (by decide) (fun c_40 => ?_) (fun c_40 => absurd (nI_le (a := 240) (b := i) (by omega) (by omega)) c_40)
        refine lv_aload_n hx hb dX7_warmIn_63 rfl (lv_at hl 0 rfl) ?_
        refine k_goI (k_runV (rest := []) (As := []) hx hb hml hown hts hK hP hD hS hA hE hl.1 (c_X2_isWarm l G kk ((ad 4) (3 + k_3)) (rv1 k_3) ) vl_X7_225 rfl rfl rfl ⟨Nat.le_of_ble_eq_true rfl, Nat.le_of_ble_eq_true rfl, rfl, rfl⟩ ([1 + (3 + k_3)]) (nd1 _) (mp_c (sk_get (m := 1) (n := 3 + k_3) (st_atP hk_3) rfl) mp_nil) ⟨Nat.zero_le _, Nat.zero_le _⟩ rfl (Nat.le_of_ble_eq_true rfl) dX7_warmIn_64) hP hD hS hA ([1 + (3 + k_3)]) (mp_c (sk_get (m := 1) (n := 3 + k_3) (st_atP hk_3) rfl) mp_nil) ads1 (fun H locs hP hD hS => ?_)
        replace hP : va_P G vwCl ([(h, .inr (7, mrG ad))] ++ (stW kk (ad 4) g1 z_1.2.1 rv1 ++ (stW kk (ad 3) g u rv))) H := vP_eq2 hP (sm_same (mp_c (sk_get (m := 1) (n := 3 + k_3) (st_atP hk_3) rfl) mp_nil))
        replace hD : va_D A ([(h, .inr (7, mrG ad))] ++ (stW kk (ad 4) g1 z_1.2.1 rv1 ++ (stW kk (ad 3) g u rv))) := vD_eq2 hD (sm_same (mp_c (sk_get (m := 1) (n := 3 + k_3) (st_atP hk_3) rfl) mp_nil))
        refine lv_if_eq (tgt := 74) hx hb dX7_warmIn_67 (by decide) (fun c_67 => ?_) (fun c_67 => ?_)
        · have eS := eS.trans (if_pos c_67)
          refine lv_iconst (v := (-1)) hx hb dX7_warmIn_74 (by decide) ?_
          exact fin_ix hx hb hr hlocks hK (vP_eq (congrArg (fun z : Int32 × Int32 × (Nat → Int32) × (Nat → Int32) × (Nat → Nat → Int32) => ([(h, .inr (7, mrG ad))] ++ (stW kk (ad 4) z.2.2.1 z.2.2.2.1 z.2.2.2.2 ++ (stW kk (ad 3) g u rv)) : va_W)) eS.symm) hP) (vD_eq (congrArg (fun z : Int32 × Int32 × (Nat → Int32) × (Nat → Int32) × (Nat → Nat → Int32) => ([(h, .inr (7, mrG ad))] ++ (stW kk (ad 4) z.2.2.1 z.2.2.2.1 z.2.2.2.2 ++ (stW kk (ad 3) g u rv)) : va_W)) eS.symm) hD) hS (congrArg (fun z : Int32 × Int32 × (Nat → Int32) × (Nat → Int32) × (Nat → Nat → Int32) => z.2.1) eS) (congrArg (fun z : Int32 × Int32 × (Nat → Int32) × (Nat → Int32) × (Nat → Nat → Int32) => z.1) eS) dX7_warmIn_75
        · have eS := eS.trans (if_neg c_67)
          refine lv_iload_n hx hb dX7_warmIn_70 rfl (lv_at hl 2 rfl) ?_
          refine lv_goto (tgt := 75) hx hb dX7_warmIn_71 (by decide) ?_
          exact fin_ix hx hb hr hlocks hK (vP_eq (congrArg (fun z : Int32 × Int32 × (Nat → Int32) × (Nat → Int32) × (Nat → Nat → Int32) => ([(h, .inr (7, mrG ad))] ++ (stW kk (ad 4) z.2.2.1 z.2.2.2.1 z.2.2.2.2 ++ (stW kk (ad 3) g u rv)) : va_W)) eS.symm) hP) (vD_eq (congrArg (fun z : Int32 × Int32 × (Nat → Int32) × (Nat → Int32) × (Nat → Nat → Int32) => ([(h, .inr (7, mrG ad))] ++ (stW kk (ad 4) z.2.2.1 z.2.2.2.1 z.2.2.2.2 ++ (stW kk (ad 3) g u rv)) : va_W)) eS.symm) hD) hS (congrArg (fun z : Int32 × Int32 × (Nat → Int32) × (Nat → Int32) × (Nat → Nat → Int32) => z.2.1) eS) (congrArg (fun z : Int32 × Int32 × (Nat → Int32) × (Nat → Int32) × (Nat → Nat → Int32) => z.1) eS) dX7_warmIn_75
      | succ d ih =>
        intro i g1 rv1 hd eS H locs ls hP hD hS hl
        refine lv_iload_n hx hb dX7_warmIn_36 rfl (lv_at hl 2 rfl) ?_
        refine lv_sipush (v := 240) hx hb dX7_warmIn_37 (by decide) ?_
        refine lv_icmp_ge (tgt := 63) hx hb dX7_warmIn_40 (by decide) (fun c_40 => absurd c_40 (nI_ge (a := i) (b := 240) (by omega) (by omega))) (fun c_40 => ?_)
        refine lv_aload_n hx hb dX7_warmIn_43 rfl (lv_at hl 0 rfl) ?_
        refine k_goI (k_runV (rest := []) (As := []) hx hb hml hown hts hK hP hD hS hA hE hl.1 (c_X2_isWarm l G kk ((ad 4) (3 + k_3)) (rv1 k_3) ) vl_X7_225 rfl rfl rfl ⟨Nat.le_of_ble_eq_true rfl, Nat.le_of_ble_eq_true rfl, rfl, rfl⟩ ([1 + (3 + k_3)]) (nd1 _) (mp_c (sk_get (m := 1) (n := 3 + k_3) (st_atP hk_3) rfl) mp_nil) ⟨Nat.zero_le _, Nat.zero_le _⟩ rfl (Nat.le_of_ble_eq_true rfl) dX7_warmIn_44) hP hD hS hA ([1 + (3 + k_3)]) (mp_c (sk_get (m := 1) (n := 3 + k_3) (st_atP hk_3) rfl) mp_nil) ads1 (fun H locs hP hD hS => ?_)
        replace hP : va_P G vwCl ([(h, .inr (7, mrG ad))] ++ (stW kk (ad 4) g1 z_1.2.1 rv1 ++ (stW kk (ad 3) g u rv))) H := vP_eq2 hP (sm_same (mp_c (sk_get (m := 1) (n := 3 + k_3) (st_atP hk_3) rfl) mp_nil))
        replace hD : va_D A ([(h, .inr (7, mrG ad))] ++ (stW kk (ad 4) g1 z_1.2.1 rv1 ++ (stW kk (ad 3) g u rv))) := vD_eq2 hD (sm_same (mp_c (sk_get (m := 1) (n := 3 + k_3) (st_atP hk_3) rfl) mp_nil))
        refine lv_if_ne (tgt := 63) hx hb dX7_warmIn_47 (by decide) (fun c_47 => ?_) (fun c_47 => ?_)
        · have eS := eS.trans (if_neg c_47)
          refine lv_aload_n hx hb dX7_warmIn_63 rfl (lv_at hl 0 rfl) ?_
          refine k_goI (k_runV (rest := []) (As := []) hx hb hml hown hts hK hP hD hS hA hE hl.1 (c_X2_isWarm l G kk ((ad 4) (3 + k_3)) (rv1 k_3) ) vl_X7_225 rfl rfl rfl ⟨Nat.le_of_ble_eq_true rfl, Nat.le_of_ble_eq_true rfl, rfl, rfl⟩ ([1 + (3 + k_3)]) (nd1 _) (mp_c (sk_get (m := 1) (n := 3 + k_3) (st_atP hk_3) rfl) mp_nil) ⟨Nat.zero_le _, Nat.zero_le _⟩ rfl (Nat.le_of_ble_eq_true rfl) dX7_warmIn_64) hP hD hS hA ([1 + (3 + k_3)]) (mp_c (sk_get (m := 1) (n := 3 + k_3) (st_atP hk_3) rfl) mp_nil) ads1 (fun H locs hP hD hS => ?_)
          replace hP : va_P G vwCl ([(h, .inr (7, mrG ad))] ++ (stW kk (ad 4) g1 z_1.2.1 rv1 ++ (stW kk (ad 3) g u rv))) H := vP_eq2 hP (sm_same (mp_c (sk_get (m := 1) (n := 3 + k_3) (st_atP hk_3) rfl) mp_nil))
          replace hD : va_D A ([(h, .inr (7, mrG ad))] ++ (stW kk (ad 4) g1 z_1.2.1 rv1 ++ (stW kk (ad 3) g u rv))) := vD_eq2 hD (sm_same (mp_c (sk_get (m := 1) (n := 3 + k_3) (st_atP hk_3) rfl) mp_nil))
          refine lv_if_eq (tgt := 74) hx hb dX7_warmIn_67 (by decide) (fun c_67 => ?_) (fun c_67 => ?_)
          · have eS := eS.trans (if_pos c_67)
            refine lv_iconst (v := (-1)) hx hb dX7_warmIn_74 (by decide) ?_
            exact fin_ix hx hb hr hlocks hK (vP_eq (congrArg (fun z : Int32 × Int32 × (Nat → Int32) × (Nat → Int32) × (Nat → Nat → Int32) => ([(h, .inr (7, mrG ad))] ++ (stW kk (ad 4) z.2.2.1 z.2.2.2.1 z.2.2.2.2 ++ (stW kk (ad 3) g u rv)) : va_W)) eS.symm) hP) (vD_eq (congrArg (fun z : Int32 × Int32 × (Nat → Int32) × (Nat → Int32) × (Nat → Nat → Int32) => ([(h, .inr (7, mrG ad))] ++ (stW kk (ad 4) z.2.2.1 z.2.2.2.1 z.2.2.2.2 ++ (stW kk (ad 3) g u rv)) : va_W)) eS.symm) hD) hS (congrArg (fun z : Int32 × Int32 × (Nat → Int32) × (Nat → Int32) × (Nat → Nat → Int32) => z.2.1) eS) (congrArg (fun z : Int32 × Int32 × (Nat → Int32) × (Nat → Int32) × (Nat → Nat → Int32) => z.1) eS) dX7_warmIn_75
          · have eS := eS.trans (if_neg c_67)
            refine lv_iload_n hx hb dX7_warmIn_70 rfl (lv_at hl 2 rfl) ?_
            refine lv_goto (tgt := 75) hx hb dX7_warmIn_71 (by decide) ?_
            exact fin_ix hx hb hr hlocks hK (vP_eq (congrArg (fun z : Int32 × Int32 × (Nat → Int32) × (Nat → Int32) × (Nat → Nat → Int32) => ([(h, .inr (7, mrG ad))] ++ (stW kk (ad 4) z.2.2.1 z.2.2.2.1 z.2.2.2.2 ++ (stW kk (ad 3) g u rv)) : va_W)) eS.symm) hP) (vD_eq (congrArg (fun z : Int32 × Int32 × (Nat → Int32) × (Nat → Int32) × (Nat → Nat → Int32) => ([(h, .inr (7, mrG ad))] ++ (stW kk (ad 4) z.2.2.1 z.2.2.2.1 z.2.2.2.2 ++ (stW kk (ad 3) g u rv)) : va_W)) eS.symm) hD) hS (congrArg (fun z : Int32 × Int32 × (Nat → Int32) × (Nat → Int32) × (Nat → Nat → Int32) => z.2.1) eS) (congrArg (fun z : Int32 × Int32 × (Nat → Int32) × (Nat → Int32) × (Nat → Nat → Int32) => z.1) eS) dX7_warmIn_75
        · have eS := eS.trans (if_pos c_47)
          refine lv_aload_n hx hb dX7_warmIn_50 rfl (lv_at hl 1 rfl) ?_
          refine r_get (v := .ref ((ad 4) 0)) hx hb hts hown hK hP fl_X7_26 0 rfl rfl dX7_warmIn_51 ?_
          refine k_goV (k_runV (rest := []) (As := []) hx hb hml hown hts hK hP hD hS hA hE hl.1 (c_X5_passMinute l G kk (ad 4) g1 z_1.2.1 rv1 ) vl_X7_228 rfl rfl rfl ⟨Nat.le_of_ble_eq_true rfl, Nat.le_of_ble_eq_true rfl, rfl, rfl⟩ (List.range' 1 9) (by decide +kernel) (skip_map (m := 1) (n := 0) (sg_C st_len) rfl) ⟨Nat.zero_le _, Nat.zero_le _⟩ rfl (Nat.le_of_ble_eq_true rfl) dX7_warmIn_54) hP hD hS hA (List.range' 1 9) (skip_map (m := 1) (n := 0) (sg_C st_len) rfl) st_ads (fun H locs hP hD hS => ?_)
          replace hP : va_P G vwCl ([(h, .inr (7, mrG ad))] ++ (stW kk (ad 4) ((sX5_passMinute g1 z_1.2.1 rv1).1) z_1.2.1 ((sX5_passMinute g1 z_1.2.1 rv1).2) ++ (stW kk (ad 3) g u rv))) H := vP_eq2 hP (skip_set (m := 1) (n := 0) (sg_S st_len st_len) rfl)
          replace hD : va_D A ([(h, .inr (7, mrG ad))] ++ (stW kk (ad 4) ((sX5_passMinute g1 z_1.2.1 rv1).1) z_1.2.1 ((sX5_passMinute g1 z_1.2.1 rv1).2) ++ (stW kk (ad 3) g u rv))) := vD_eq2 hD (skip_set (m := 1) (n := 0) (sg_S st_len st_len) rfl)
          have eS : sX7_warmIn g4 u4 rv4 g u rv x = (fun (z_4 : (Nat → Int32) × (Nat → Nat → Int32)) => (lp_X7_warmIn_36 g4 u4 rv4 g u rv x z_1 k_3 d (i + 1) z_4.1 z_4.2)) (sX5_passMinute g1 z_1.2.1 rv1) := eS
          generalize sX5_passMinute g1 z_1.2.1 rv1 = z_4 at hP hD eS ⊢
          refine lv_iinc (v := (nI (i + 1))) (lv' := [(3, .int (nI (i + 1))), (2, .ref ((ad 4) (3 + k_3))), (0, .ref h)]) hx hb dX7_warmIn_57 hl (k := 2) rfl (nI_add i 1) (by decide) rfl (fun ls hl => ?_)
          refine lv_goto (tgt := 36) hx hb dX7_warmIn_60 (by decide) ?_
          exact ih (i + 1) z_4.1 z_4.2 (by omega) eS _ _ ls hP hD hS (lv_sub hl [1, 2, 0] rfl)
    exact L_5 240 0 z_1.1 z_1.2.2 (Nat.zero_add _) eS _ _ ls hP hD hS (lv_sub hl [1, 2, 0] rfl)
def lp_X7_coming_44 (g4 : Nat → Int32) (u4 : Nat → Int32) (rv4 : Nat → Nat → Int32) (g : Nat → Int32) (u : Nat → Int32) (rv : Nat → Nat → Int32) (x : Int32) (y : Int32) (z_1 : (Nat → Int32) × (Nat → Int32) × (Nat → Nat → Int32)) : Nat → Nat → (Nat → Int32) → (Nat → Nat → Int32) → Int32 × Int32 × (Nat → Int32) × (Nat → Int32) × (Nat → Nat → Int32)
  | 0, i, g1, rv1 => (if y = 0 then (0, ((g1 5) - (g 5)), g1, z_1.2.1, rv1) else (if y = 1 then (0, ((g1 3) - (g 3)), g1, z_1.2.1, rv1) else (if y = 2 then (0, ((g1 6) - (g 6)), g1, z_1.2.1, rv1) else (if y = 3 then (0, ((g1 7) - (g 7)), g1, z_1.2.1, rv1) else (0, (sX5_warmestRoom g1 z_1.2.1 rv1), g1, z_1.2.1, rv1)))))
  | d + 1, i, g1, rv1 => ((fun (z_2 : (Nat → Int32) × (Nat → Nat → Int32)) => (lp_X7_coming_44 g4 u4 rv4 g u rv x y z_1 d (i + 1) z_2.1 z_2.2)) (sX5_passMinute g1 z_1.2.1 rv1))
def sX7_coming_z_1 (g4 : Nat → Int32) (u4 : Nat → Int32) (rv4 : Nat → Nat → Int32) (g : Nat → Int32) (u : Nat → Int32) (rv : Nat → Nat → Int32) (x : Int32) (y : Int32) (z_1 : (Nat → Int32) × (Nat → Int32) × (Nat → Nat → Int32)) : Int32 × Int32 × (Nat → Int32) × (Nat → Int32) × (Nat → Nat → Int32) :=
  (lp_X7_coming_44 g4 u4 rv4 g u rv x y z_1 x.toNatClampNeg 0 z_1.1 z_1.2.2)
def sX7_coming (g4 : Nat → Int32) (u4 : Nat → Int32) (rv4 : Nat → Nat → Int32) (g : Nat → Int32) (u : Nat → Int32) (rv : Nat → Nat → Int32) (x : Int32) (y : Int32) : Int32 × Int32 × (Nat → Int32) × (Nat → Int32) × (Nat → Nat → Int32) :=
  (if x < 1 then (1, 0, g4, u4, rv4) else (if 240 < x then (1, 0, g4, u4, rv4) else (if y < 0 then (1, 0, g4, u4, rv4) else (if y ≤ 4 then (sX7_coming_z_1 g4 u4 rv4 g u rv x y (sX5_copyFrom g4 u4 rv4 g u rv)) else (1, 0, g4, u4, rv4)))))
set_option maxRecDepth 100000 in
set_option maxHeartbeats 4000000 in
theorem c_X7_coming (l : Launch) (hst : l.stackTraces = false) (G : va_G) (kk : Nat → ClassId) (h : Nat) (ad : Nat → Nat → Nat) (g4 : Nat → Int32) (u4 : Nat → Int32) (rv4 : Nat → Nat → Int32) (g : Nat → Int32) (u : Nat → Int32) (rv : Nat → Nat → Int32) (x : Int32) (y : Int32) (hzb : ∀ i, i < 6 → zb (rv i 5)) : CX l yX7_coming cX7_coming 4 (some .int) (rmX 6 98) [.ref h, .int x, .int y] G kk ([(h, .inr (7, mrG ad))] ++ (stW kk (ad 4) g4 u4 rv4 ++ (stW kk (ad 3) g u rv))) (QIX G kk ([(h, .inr (7, mrG ad))] ++ (stW kk (ad 4) ((sX7_coming g4 u4 rv4 g u rv x y).2.2.1) ((sX7_coming g4 u4 rv4 g u rv x y).2.2.2.1) ((sX7_coming g4 u4 rv4 g u rv x y).2.2.2.2) ++ (stW kk (ad 3) g u rv))) ((sX7_coming g4 u4 rv4 g u rv x y).2.1) ((sX7_coming g4 u4 rv4 g u rv x y).1)) (XKX G kk ([(h, .inr (7, mrG ad))] ++ (stW kk (ad 4) ((sX7_coming g4 u4 rv4 g u rv x y).2.2.1) ((sX7_coming g4 u4 rv4 g u rv x y).2.2.2.1) ((sX7_coming g4 u4 rv4 g u rv x y).2.2.2.2) ++ (stW kk (ad 3) g u rv))) [1] ((sX7_coming g4 u4 rv4 g u rv x y).1)) := by
  refine cx_start (by decide +kernel) (Nat.le_of_ble_eq_true rfl) ?_
  intro p e s m below meth c A ls hx hb hr hml hown hts hlocks hA hE hK hP hD hS hl hxt
  have hown : s.vm.findClass RX7 = some m.cls := hown
  have hl : lv_has ls 4 [(0, .ref h), (1, .int x), (2, .int y)] := hl
  have eS : sX7_coming g4 u4 rv4 g u rv x y = sX7_coming g4 u4 rv4 g u rv x y := rfl
  refine lv_iload_n hx hb dX7_coming_0 rfl (lv_at hl 1 rfl) ?_
  refine lv_iconst (v := 1) hx hb dX7_coming_1 (by decide) ?_
  refine lv_icmp_lt (tgt := 21) hx hb dX7_coming_2 (by decide) (fun c_2 => ?_) (fun c_2 => ?_)
  · have eS := eS.trans (if_pos c_2)
    exact fin_x (k := 1) hst hx hb hown hts hlocks hE hK (vP_eq (congrArg (fun z : Int32 × Int32 × (Nat → Int32) × (Nat → Int32) × (Nat → Nat → Int32) => ([(h, .inr (7, mrG ad))] ++ (stW kk (ad 4) z.2.2.1 z.2.2.2.1 z.2.2.2.2 ++ (stW kk (ad 3) g u rv)) : va_W)) eS.symm) hP) (vD_eq (congrArg (fun z : Int32 × Int32 × (Nat → Int32) × (Nat → Int32) × (Nat → Nat → Int32) => ([(h, .inr (7, mrG ad))] ++ (stW kk (ad 4) z.2.2.1 z.2.2.2.1 z.2.2.2.2 ++ (stW kk (ad 3) g u rv)) : va_W)) eS.symm) hD) hS hl.1 hml hxt tw_1 st_231 ⟨rfl, by decide⟩ (congrArg (fun z : Int32 × Int32 × (Nat → Int32) × (Nat → Int32) × (Nat → Nat → Int32) => z.1) eS) (Nat.le_of_ble_eq_true rfl) (Nat.le_of_ble_eq_true rfl) (Nat.le_refl _) (Nat.le_refl _) dX7_coming_21 dX7_coming_24 dX7_coming_25 dX7_coming_27 dX7_coming_30
  · have eS := eS.trans (if_neg c_2)
    refine lv_iload_n hx hb dX7_coming_5 rfl (lv_at hl 1 rfl) ?_
    refine lv_sipush (v := 240) hx hb dX7_coming_6 (by decide) ?_
    refine lv_icmp_gt (tgt := 21) hx hb dX7_coming_9 (by decide) (fun c_9 => ?_) (fun c_9 => ?_)
    · have eS := eS.trans (if_pos c_9)
      exact fin_x (k := 1) hst hx hb hown hts hlocks hE hK (vP_eq (congrArg (fun z : Int32 × Int32 × (Nat → Int32) × (Nat → Int32) × (Nat → Nat → Int32) => ([(h, .inr (7, mrG ad))] ++ (stW kk (ad 4) z.2.2.1 z.2.2.2.1 z.2.2.2.2 ++ (stW kk (ad 3) g u rv)) : va_W)) eS.symm) hP) (vD_eq (congrArg (fun z : Int32 × Int32 × (Nat → Int32) × (Nat → Int32) × (Nat → Nat → Int32) => ([(h, .inr (7, mrG ad))] ++ (stW kk (ad 4) z.2.2.1 z.2.2.2.1 z.2.2.2.2 ++ (stW kk (ad 3) g u rv)) : va_W)) eS.symm) hD) hS hl.1 hml hxt tw_1 st_231 ⟨rfl, by decide⟩ (congrArg (fun z : Int32 × Int32 × (Nat → Int32) × (Nat → Int32) × (Nat → Nat → Int32) => z.1) eS) (Nat.le_of_ble_eq_true rfl) (Nat.le_of_ble_eq_true rfl) (Nat.le_refl _) (Nat.le_refl _) dX7_coming_21 dX7_coming_24 dX7_coming_25 dX7_coming_27 dX7_coming_30
    · have eS := eS.trans (if_neg c_9)
      refine lv_iload_n hx hb dX7_coming_12 rfl (lv_at hl 2 rfl) ?_
      refine lv_if_lt (tgt := 21) hx hb dX7_coming_13 (by decide) (fun c_13 => ?_) (fun c_13 => ?_)
      · have eS := eS.trans (if_pos c_13)
        exact fin_x (k := 1) hst hx hb hown hts hlocks hE hK (vP_eq (congrArg (fun z : Int32 × Int32 × (Nat → Int32) × (Nat → Int32) × (Nat → Nat → Int32) => ([(h, .inr (7, mrG ad))] ++ (stW kk (ad 4) z.2.2.1 z.2.2.2.1 z.2.2.2.2 ++ (stW kk (ad 3) g u rv)) : va_W)) eS.symm) hP) (vD_eq (congrArg (fun z : Int32 × Int32 × (Nat → Int32) × (Nat → Int32) × (Nat → Nat → Int32) => ([(h, .inr (7, mrG ad))] ++ (stW kk (ad 4) z.2.2.1 z.2.2.2.1 z.2.2.2.2 ++ (stW kk (ad 3) g u rv)) : va_W)) eS.symm) hD) hS hl.1 hml hxt tw_1 st_231 ⟨rfl, by decide⟩ (congrArg (fun z : Int32 × Int32 × (Nat → Int32) × (Nat → Int32) × (Nat → Nat → Int32) => z.1) eS) (Nat.le_of_ble_eq_true rfl) (Nat.le_of_ble_eq_true rfl) (Nat.le_refl _) (Nat.le_refl _) dX7_coming_21 dX7_coming_24 dX7_coming_25 dX7_coming_27 dX7_coming_30
      · have eS := eS.trans (if_neg c_13)
        refine lv_iload_n hx hb dX7_coming_16 rfl (lv_at hl 2 rfl) ?_
        refine lv_iconst (v := 4) hx hb dX7_coming_17 (by decide) ?_
        refine lv_icmp_le (tgt := 31) hx hb dX7_coming_18 (by decide) (fun c_18 => ?_) (fun c_18 => ?_)
        · have eS := eS.trans (if_pos c_18)
          have hn := pos_e (Int32.not_lt.mp c_2)
          refine lv_aload_n hx hb dX7_coming_31 rfl (lv_at hl 0 rfl) ?_
          refine r_get (v := .ref ((ad 4) 0)) hx hb hts hown hK hP fl_X7_26 0 rfl rfl dX7_coming_32 ?_
          refine lv_aload_n hx hb dX7_coming_35 rfl (lv_at hl 0 rfl) ?_
          refine r_get (v := .ref ((ad 3) 0)) hx hb hts hown hK hP fl_X7_23 0 rfl rfl dX7_coming_36 ?_
          refine k_goV (k_runV (rest := []) (As := [.ref ((ad 3) 0)]) hx hb hml hown hts hK hP hD hS hA hE hl.1 (c_X5_copyFrom l G kk (ad 4) (ad 3) g4 u4 rv4 g u rv hzb) vl_X7_81 rfl rfl rfl ⟨Nat.le_of_ble_eq_true rfl, Nat.le_of_ble_eq_true rfl, rfl, rfl⟩ (List.range' 1 9 ++ (List.range' 10 9)) (by decide +kernel) (mp_b (skip_map (m := 1) (n := 0) (sg_C st_len) rfl) (skip_map (m := 1) (n := 9) (skip_map (m := 9) (n := 0) (sg_Ce st_len) st_len) rfl)) ⟨Nat.zero_le _, Nat.zero_le _⟩ rfl (Nat.le_of_ble_eq_true rfl) dX7_coming_39) hP hD hS hA (List.range' 1 9 ++ (List.range' 10 9)) (mp_b (skip_map (m := 1) (n := 0) (sg_C st_len) rfl) (skip_map (m := 1) (n := 9) (skip_map (m := 9) (n := 0) (sg_Ce st_len) st_len) rfl)) (ads_app st_ads st_ads) (fun H locs hP hD hS => ?_)
          replace hP : va_P G vwCl ([(h, .inr (7, mrG ad))] ++ (stW kk (ad 4) ((sX5_copyFrom g4 u4 rv4 g u rv).1) ((sX5_copyFrom g4 u4 rv4 g u rv).2.1) ((sX5_copyFrom g4 u4 rv4 g u rv).2.2) ++ (stW kk (ad 3) g u rv))) H := vP_eq2 hP (sm_b (ws1 := [(h, .inr (7, mrG ad))] ++ (stW kk (ad 4) ((sX5_copyFrom g4 u4 rv4 g u rv).1) ((sX5_copyFrom g4 u4 rv4 g u rv).2.1) ((sX5_copyFrom g4 u4 rv4 g u rv).2.2) ++ (stW kk (ad 3) g u rv))) (skip_set (m := 1) (n := 0) (sg_S st_len st_len) rfl) rl_st (skip_set (m := 1) (n := 9) (skip_set (m := 9) (n := 0) (sg_Se st_len st_len) st_len) rfl))
          replace hD : va_D A ([(h, .inr (7, mrG ad))] ++ (stW kk (ad 4) ((sX5_copyFrom g4 u4 rv4 g u rv).1) ((sX5_copyFrom g4 u4 rv4 g u rv).2.1) ((sX5_copyFrom g4 u4 rv4 g u rv).2.2) ++ (stW kk (ad 3) g u rv))) := vD_eq2 hD (sm_b (ws1 := [(h, .inr (7, mrG ad))] ++ (stW kk (ad 4) ((sX5_copyFrom g4 u4 rv4 g u rv).1) ((sX5_copyFrom g4 u4 rv4 g u rv).2.1) ((sX5_copyFrom g4 u4 rv4 g u rv).2.2) ++ (stW kk (ad 3) g u rv))) (skip_set (m := 1) (n := 0) (sg_S st_len st_len) rfl) rl_st (skip_set (m := 1) (n := 9) (skip_set (m := 9) (n := 0) (sg_Se st_len st_len) st_len) rfl))
          have eS : sX7_coming g4 u4 rv4 g u rv x y = sX7_coming_z_1 g4 u4 rv4 g u rv x y (sX5_copyFrom g4 u4 rv4 g u rv) := eS
          generalize sX5_copyFrom g4 u4 rv4 g u rv = z_1 at hP hD eS ⊢
          refine lv_iconst (v := 0) hx hb dX7_coming_42 (by decide) ?_
          refine lv_istore_n (lv' := [(3, .int 0), (0, .ref h), (1, .int x), (2, .int y)]) hx hb dX7_coming_43 rfl hl (by decide) rfl (fun ls hl => ?_)
          have L_3 : ∀ (d : Nat) (i : Nat) (g1 : Nat → Int32) (rv1 : Nat → Nat → Int32) (hd : i + d = x.toNatClampNeg) (eS : sX7_coming g4 u4 rv4 g u rv x y = lp_X7_coming_44 g4 u4 rv4 g u rv x y z_1 d i g1 rv1) (H : Heap) (locs : List Loc) (ls : Array Slot) (hP : va_P G vwCl ([(h, .inr (7, mrG ad))] ++ (stW kk (ad 4) g1 z_1.2.1 rv1 ++ (stW kk (ad 3) g u rv))) H) (hD : va_D A ([(h, .inr (7, mrG ad))] ++ (stW kk (ad 4) g1 z_1.2.1 rv1 ++ (stW kk (ad 3) g u rv)))) (hS : va_S A s.heap H locs) (hl : lv_has ls 4 [(0, .ref h), (1, .int x), (2, .int y), (3, .int (nI i))]), GOX p l e (rmX 6 98) s m ([.ref h, .int x, .int y] : List Value).toArray below meth c A (QIX G kk ([(h, .inr (7, mrG ad))] ++ (stW kk (ad 4) ((sX7_coming g4 u4 rv4 g u rv x y).2.2.1) ((sX7_coming g4 u4 rv4 g u rv x y).2.2.2.1) ((sX7_coming g4 u4 rv4 g u rv x y).2.2.2.2) ++ (stW kk (ad 3) g u rv))) ((sX7_coming g4 u4 rv4 g u rv x y).2.1) ((sX7_coming g4 u4 rv4 g u rv x y).1)) (XKX G kk ([(h, .inr (7, mrG ad))] ++ (stW kk (ad 4) ((sX7_coming g4 u4 rv4 g u rv x y).2.2.1) ((sX7_coming g4 u4 rv4 g u rv x y).2.2.2.1) ((sX7_coming g4 u4 rv4 g u rv x y).2.2.2.2) ++ (stW kk (ad 3) g u rv))) [1] ((sX7_coming g4 u4 rv4 g u rv x y).1)) H locs (F0 m 44 ls []) := by
            intro d
            induction d with
            | zero =>
              intro i g1 rv1 hd eS H locs ls hP hD hS hl
              refine lv_iload_n hx hb dX7_coming_44 rfl (lv_at hl 3 rfl) ?_
              refine lv_iload_n hx hb dX7_coming_45 rfl (lv_at hl 1 rfl) ?_
              refine lv_icmp_ge (tgt := 62) hx hb dX7_coming_46 (by decide) (fun c_46 => ?_) (fun c_46 => absurd (cl_le hn (by omega) (by have := @cl_b x; omega)) c_46)
              refine lv_iload_n hx hb dX7_coming_62 rfl (lv_at hl 2 rfl) ?_
              refine (Decidable.em (y = 0)).elim (fun c_63_0 => ?_) (fun c_63_0 => ?_)
              · have eS := eS.trans (if_pos c_63_0)
                refine lv_tableIn (tgt := 92) hx hb dX7_coming_63 (by rw [c_63_0]; decide) (by rw [c_63_0]; decide) (by rw [c_63_0]; rfl) (by decide) ?_
                refine lv_aload_n hx hb dX7_coming_92 rfl (lv_at hl 0 rfl) ?_
                refine r_get (v := .ref ((ad 4) 0)) hx hb hts hown hK hP fl_X7_26 0 rfl rfl dX7_coming_93 ?_
                refine r_getN (v := .int (g1 5)) hE hx hb hts hown hK hP fn_X7_203 1 (sk_get (m := 1) (n := 0) rfl rfl) rfl dX7_coming_96 ?_
                refine lv_aload_n hx hb dX7_coming_99 rfl (lv_at hl 0 rfl) ?_
                refine r_get (v := .ref ((ad 3) 0)) hx hb hts hown hK hP fl_X7_23 0 rfl rfl dX7_coming_100 ?_
                refine r_getN (v := .int (g 5)) hE hx hb hts hown hK hP fn_X7_203 10 (sk_get (m := 1) (n := 9) (sk_get (m := 9) (n := 0) rfl st_len) rfl) rfl dX7_coming_103 ?_
                refine lv_isub hx hb dX7_coming_106 ?_
                exact fin_ix hx hb hr hlocks hK (vP_eq (congrArg (fun z : Int32 × Int32 × (Nat → Int32) × (Nat → Int32) × (Nat → Nat → Int32) => ([(h, .inr (7, mrG ad))] ++ (stW kk (ad 4) z.2.2.1 z.2.2.2.1 z.2.2.2.2 ++ (stW kk (ad 3) g u rv)) : va_W)) eS.symm) hP) (vD_eq (congrArg (fun z : Int32 × Int32 × (Nat → Int32) × (Nat → Int32) × (Nat → Nat → Int32) => ([(h, .inr (7, mrG ad))] ++ (stW kk (ad 4) z.2.2.1 z.2.2.2.1 z.2.2.2.2 ++ (stW kk (ad 3) g u rv)) : va_W)) eS.symm) hD) hS (congrArg (fun z : Int32 × Int32 × (Nat → Int32) × (Nat → Int32) × (Nat → Nat → Int32) => z.2.1) eS) (congrArg (fun z : Int32 × Int32 × (Nat → Int32) × (Nat → Int32) × (Nat → Nat → Int32) => z.1) eS) dX7_coming_107
              have eS := eS.trans (if_neg c_63_0)
              refine (Decidable.em (y = 1)).elim (fun c_63_1 => ?_) (fun c_63_1 => ?_)
              · have eS := eS.trans (if_pos c_63_1)
                refine lv_tableIn (tgt := 108) hx hb dX7_coming_63 (by rw [c_63_1]; decide) (by rw [c_63_1]; decide) (by rw [c_63_1]; rfl) (by decide) ?_
                refine lv_aload_n hx hb dX7_coming_108 rfl (lv_at hl 0 rfl) ?_
                refine r_get (v := .ref ((ad 4) 0)) hx hb hts hown hK hP fl_X7_26 0 rfl rfl dX7_coming_109 ?_
                refine r_getN (v := .int (g1 3)) hE hx hb hts hown hK hP fn_X7_233 1 (sk_get (m := 1) (n := 0) rfl rfl) rfl dX7_coming_112 ?_
                refine lv_aload_n hx hb dX7_coming_115 rfl (lv_at hl 0 rfl) ?_
                refine r_get (v := .ref ((ad 3) 0)) hx hb hts hown hK hP fl_X7_23 0 rfl rfl dX7_coming_116 ?_
                refine r_getN (v := .int (g 3)) hE hx hb hts hown hK hP fn_X7_233 10 (sk_get (m := 1) (n := 9) (sk_get (m := 9) (n := 0) rfl st_len) rfl) rfl dX7_coming_119 ?_
                refine lv_isub hx hb dX7_coming_122 ?_
                exact fin_ix hx hb hr hlocks hK (vP_eq (congrArg (fun z : Int32 × Int32 × (Nat → Int32) × (Nat → Int32) × (Nat → Nat → Int32) => ([(h, .inr (7, mrG ad))] ++ (stW kk (ad 4) z.2.2.1 z.2.2.2.1 z.2.2.2.2 ++ (stW kk (ad 3) g u rv)) : va_W)) eS.symm) hP) (vD_eq (congrArg (fun z : Int32 × Int32 × (Nat → Int32) × (Nat → Int32) × (Nat → Nat → Int32) => ([(h, .inr (7, mrG ad))] ++ (stW kk (ad 4) z.2.2.1 z.2.2.2.1 z.2.2.2.2 ++ (stW kk (ad 3) g u rv)) : va_W)) eS.symm) hD) hS (congrArg (fun z : Int32 × Int32 × (Nat → Int32) × (Nat → Int32) × (Nat → Nat → Int32) => z.2.1) eS) (congrArg (fun z : Int32 × Int32 × (Nat → Int32) × (Nat → Int32) × (Nat → Nat → Int32) => z.1) eS) dX7_coming_123
              have eS := eS.trans (if_neg c_63_1)
              refine (Decidable.em (y = 2)).elim (fun c_63_2 => ?_) (fun c_63_2 => ?_)
              · have eS := eS.trans (if_pos c_63_2)
                refine lv_tableIn (tgt := 124) hx hb dX7_coming_63 (by rw [c_63_2]; decide) (by rw [c_63_2]; decide) (by rw [c_63_2]; rfl) (by decide) ?_
                refine lv_aload_n hx hb dX7_coming_124 rfl (lv_at hl 0 rfl) ?_
                refine r_get (v := .ref ((ad 4) 0)) hx hb hts hown hK hP fl_X7_26 0 rfl rfl dX7_coming_125 ?_
                refine r_getN (v := .int (g1 6)) hE hx hb hts hown hK hP fn_X7_236 1 (sk_get (m := 1) (n := 0) rfl rfl) rfl dX7_coming_128 ?_
                refine lv_aload_n hx hb dX7_coming_131 rfl (lv_at hl 0 rfl) ?_
                refine r_get (v := .ref ((ad 3) 0)) hx hb hts hown hK hP fl_X7_23 0 rfl rfl dX7_coming_132 ?_
                refine r_getN (v := .int (g 6)) hE hx hb hts hown hK hP fn_X7_236 10 (sk_get (m := 1) (n := 9) (sk_get (m := 9) (n := 0) rfl st_len) rfl) rfl dX7_coming_135 ?_
                refine lv_isub hx hb dX7_coming_138 ?_
                exact fin_ix hx hb hr hlocks hK (vP_eq (congrArg (fun z : Int32 × Int32 × (Nat → Int32) × (Nat → Int32) × (Nat → Nat → Int32) => ([(h, .inr (7, mrG ad))] ++ (stW kk (ad 4) z.2.2.1 z.2.2.2.1 z.2.2.2.2 ++ (stW kk (ad 3) g u rv)) : va_W)) eS.symm) hP) (vD_eq (congrArg (fun z : Int32 × Int32 × (Nat → Int32) × (Nat → Int32) × (Nat → Nat → Int32) => ([(h, .inr (7, mrG ad))] ++ (stW kk (ad 4) z.2.2.1 z.2.2.2.1 z.2.2.2.2 ++ (stW kk (ad 3) g u rv)) : va_W)) eS.symm) hD) hS (congrArg (fun z : Int32 × Int32 × (Nat → Int32) × (Nat → Int32) × (Nat → Nat → Int32) => z.2.1) eS) (congrArg (fun z : Int32 × Int32 × (Nat → Int32) × (Nat → Int32) × (Nat → Nat → Int32) => z.1) eS) dX7_coming_139
              have eS := eS.trans (if_neg c_63_2)
              refine (Decidable.em (y = 3)).elim (fun c_63_3 => ?_) (fun c_63_3 => ?_)
              · have eS := eS.trans (if_pos c_63_3)
                refine lv_tableIn (tgt := 140) hx hb dX7_coming_63 (by rw [c_63_3]; decide) (by rw [c_63_3]; decide) (by rw [c_63_3]; rfl) (by decide) ?_
                refine lv_aload_n hx hb dX7_coming_140 rfl (lv_at hl 0 rfl) ?_
                refine r_get (v := .ref ((ad 4) 0)) hx hb hts hown hK hP fl_X7_26 0 rfl rfl dX7_coming_141 ?_
                refine r_getN (v := .int (g1 7)) hE hx hb hts hown hK hP fn_X7_239 1 (sk_get (m := 1) (n := 0) rfl rfl) rfl dX7_coming_144 ?_
                refine lv_aload_n hx hb dX7_coming_147 rfl (lv_at hl 0 rfl) ?_
                refine r_get (v := .ref ((ad 3) 0)) hx hb hts hown hK hP fl_X7_23 0 rfl rfl dX7_coming_148 ?_
                refine r_getN (v := .int (g 7)) hE hx hb hts hown hK hP fn_X7_239 10 (sk_get (m := 1) (n := 9) (sk_get (m := 9) (n := 0) rfl st_len) rfl) rfl dX7_coming_151 ?_
                refine lv_isub hx hb dX7_coming_154 ?_
                exact fin_ix hx hb hr hlocks hK (vP_eq (congrArg (fun z : Int32 × Int32 × (Nat → Int32) × (Nat → Int32) × (Nat → Nat → Int32) => ([(h, .inr (7, mrG ad))] ++ (stW kk (ad 4) z.2.2.1 z.2.2.2.1 z.2.2.2.2 ++ (stW kk (ad 3) g u rv)) : va_W)) eS.symm) hP) (vD_eq (congrArg (fun z : Int32 × Int32 × (Nat → Int32) × (Nat → Int32) × (Nat → Nat → Int32) => ([(h, .inr (7, mrG ad))] ++ (stW kk (ad 4) z.2.2.1 z.2.2.2.1 z.2.2.2.2 ++ (stW kk (ad 3) g u rv)) : va_W)) eS.symm) hD) hS (congrArg (fun z : Int32 × Int32 × (Nat → Int32) × (Nat → Int32) × (Nat → Nat → Int32) => z.2.1) eS) (congrArg (fun z : Int32 × Int32 × (Nat → Int32) × (Nat → Int32) × (Nat → Nat → Int32) => z.1) eS) dX7_coming_155
              have eS := eS.trans (if_neg c_63_3)
              refine lv_tableOut (tgt := 156) hx hb dX7_coming_63 (by have t0 := lv_neT (a := 0) c_63_0 (by decide); have t1 := lv_neT (a := 1) c_63_1 (by decide); have t2 := lv_neT (a := 2) c_63_2 (by decide); have t3 := lv_neT (a := 3) c_63_3 (by decide); omega) (by decide) ?_
              refine lv_aload_n hx hb dX7_coming_156 rfl (lv_at hl 0 rfl) ?_
              refine r_get (v := .ref ((ad 4) 0)) hx hb hts hown hK hP fl_X7_26 0 rfl rfl dX7_coming_157 ?_
              refine k_goI (k_runV (rest := []) (As := []) hx hb hml hown hts hK hP hD hS hA hE hl.1 (c_X5_warmestRoom l G kk (ad 4) g1 z_1.2.1 rv1 ) vl_X7_242 rfl rfl rfl ⟨Nat.le_of_ble_eq_true rfl, Nat.le_of_ble_eq_true rfl, rfl, rfl⟩ (List.range' 1 9) (by decide +kernel) (skip_map (m := 1) (n := 0) (sg_C st_len) rfl) ⟨Nat.zero_le _, Nat.zero_le _⟩ rfl (Nat.le_of_ble_eq_true rfl) dX7_coming_160) hP hD hS hA (List.range' 1 9) (skip_map (m := 1) (n := 0) (sg_C st_len) rfl) st_ads (fun H locs hP hD hS => ?_)
              replace hP : va_P G vwCl ([(h, .inr (7, mrG ad))] ++ (stW kk (ad 4) g1 z_1.2.1 rv1 ++ (stW kk (ad 3) g u rv))) H := vP_eq2 hP (sm_same (skip_map (m := 1) (n := 0) (sg_C st_len) rfl))
              replace hD : va_D A ([(h, .inr (7, mrG ad))] ++ (stW kk (ad 4) g1 z_1.2.1 rv1 ++ (stW kk (ad 3) g u rv))) := vD_eq2 hD (sm_same (skip_map (m := 1) (n := 0) (sg_C st_len) rfl))
              exact fin_ix hx hb hr hlocks hK (vP_eq (congrArg (fun z : Int32 × Int32 × (Nat → Int32) × (Nat → Int32) × (Nat → Nat → Int32) => ([(h, .inr (7, mrG ad))] ++ (stW kk (ad 4) z.2.2.1 z.2.2.2.1 z.2.2.2.2 ++ (stW kk (ad 3) g u rv)) : va_W)) eS.symm) hP) (vD_eq (congrArg (fun z : Int32 × Int32 × (Nat → Int32) × (Nat → Int32) × (Nat → Nat → Int32) => ([(h, .inr (7, mrG ad))] ++ (stW kk (ad 4) z.2.2.1 z.2.2.2.1 z.2.2.2.2 ++ (stW kk (ad 3) g u rv)) : va_W)) eS.symm) hD) hS (congrArg (fun z : Int32 × Int32 × (Nat → Int32) × (Nat → Int32) × (Nat → Nat → Int32) => z.2.1) eS) (congrArg (fun z : Int32 × Int32 × (Nat → Int32) × (Nat → Int32) × (Nat → Nat → Int32) => z.1) eS) dX7_coming_163
            | succ d ih =>
              intro i g1 rv1 hd eS H locs ls hP hD hS hl
              refine lv_iload_n hx hb dX7_coming_44 rfl (lv_at hl 3 rfl) ?_
              refine lv_iload_n hx hb dX7_coming_45 rfl (lv_at hl 1 rfl) ?_
              refine lv_icmp_ge (tgt := 62) hx hb dX7_coming_46 (by decide) (fun c_46 => absurd c_46 (cl_gt hn (by omega) cl_b)) (fun c_46 => ?_)
              refine lv_aload_n hx hb dX7_coming_49 rfl (lv_at hl 0 rfl) ?_
              refine r_get (v := .ref ((ad 4) 0)) hx hb hts hown hK hP fl_X7_26 0 rfl rfl dX7_coming_50 ?_
              refine k_goV (k_runV (rest := []) (As := []) hx hb hml hown hts hK hP hD hS hA hE hl.1 (c_X5_passMinute l G kk (ad 4) g1 z_1.2.1 rv1 ) vl_X7_228 rfl rfl rfl ⟨Nat.le_of_ble_eq_true rfl, Nat.le_of_ble_eq_true rfl, rfl, rfl⟩ (List.range' 1 9) (by decide +kernel) (skip_map (m := 1) (n := 0) (sg_C st_len) rfl) ⟨Nat.zero_le _, Nat.zero_le _⟩ rfl (Nat.le_of_ble_eq_true rfl) dX7_coming_53) hP hD hS hA (List.range' 1 9) (skip_map (m := 1) (n := 0) (sg_C st_len) rfl) st_ads (fun H locs hP hD hS => ?_)
              replace hP : va_P G vwCl ([(h, .inr (7, mrG ad))] ++ (stW kk (ad 4) ((sX5_passMinute g1 z_1.2.1 rv1).1) z_1.2.1 ((sX5_passMinute g1 z_1.2.1 rv1).2) ++ (stW kk (ad 3) g u rv))) H := vP_eq2 hP (skip_set (m := 1) (n := 0) (sg_S st_len st_len) rfl)
              replace hD : va_D A ([(h, .inr (7, mrG ad))] ++ (stW kk (ad 4) ((sX5_passMinute g1 z_1.2.1 rv1).1) z_1.2.1 ((sX5_passMinute g1 z_1.2.1 rv1).2) ++ (stW kk (ad 3) g u rv))) := vD_eq2 hD (skip_set (m := 1) (n := 0) (sg_S st_len st_len) rfl)
              have eS : sX7_coming g4 u4 rv4 g u rv x y = (fun (z_2 : (Nat → Int32) × (Nat → Nat → Int32)) => (lp_X7_coming_44 g4 u4 rv4 g u rv x y z_1 d (i + 1) z_2.1 z_2.2)) (sX5_passMinute g1 z_1.2.1 rv1) := eS
              generalize sX5_passMinute g1 z_1.2.1 rv1 = z_2 at hP hD eS ⊢
              refine lv_iinc (v := (nI (i + 1))) (lv' := [(3, .int (nI (i + 1))), (0, .ref h), (1, .int x), (2, .int y)]) hx hb dX7_coming_56 hl (k := 3) rfl (nI_add i 1) (by decide) rfl (fun ls hl => ?_)
              refine lv_goto (tgt := 44) hx hb dX7_coming_59 (by decide) ?_
              exact ih (i + 1) z_2.1 z_2.2 (by omega) eS _ _ ls hP hD hS (lv_sub hl [1, 2, 3, 0] rfl)
          exact L_3 x.toNatClampNeg 0 z_1.1 z_1.2.2 (Nat.zero_add _) eS _ _ ls hP hD hS (lv_sub hl [1, 2, 3, 0] rfl)
        · have eS := eS.trans (if_neg c_18)
          exact fin_x (k := 1) hst hx hb hown hts hlocks hE hK (vP_eq (congrArg (fun z : Int32 × Int32 × (Nat → Int32) × (Nat → Int32) × (Nat → Nat → Int32) => ([(h, .inr (7, mrG ad))] ++ (stW kk (ad 4) z.2.2.1 z.2.2.2.1 z.2.2.2.2 ++ (stW kk (ad 3) g u rv)) : va_W)) eS.symm) hP) (vD_eq (congrArg (fun z : Int32 × Int32 × (Nat → Int32) × (Nat → Int32) × (Nat → Nat → Int32) => ([(h, .inr (7, mrG ad))] ++ (stW kk (ad 4) z.2.2.1 z.2.2.2.1 z.2.2.2.2 ++ (stW kk (ad 3) g u rv)) : va_W)) eS.symm) hD) hS hl.1 hml hxt tw_1 st_231 ⟨rfl, by decide⟩ (congrArg (fun z : Int32 × Int32 × (Nat → Int32) × (Nat → Int32) × (Nat → Nat → Int32) => z.1) eS) (Nat.le_of_ble_eq_true rfl) (Nat.le_of_ble_eq_true rfl) (Nat.le_refl _) (Nat.le_refl _) dX7_coming_21 dX7_coming_24 dX7_coming_25 dX7_coming_27 dX7_coming_30
def lp_X7_leastLimit_19 (g4 : Nat → Int32) (u4 : Nat → Int32) (rv4 : Nat → Nat → Int32) (g : Nat → Int32) (u : Nat → Int32) (rv : Nat → Nat → Int32) (x : Int32) : Nat → Nat → (Nat → Int32) → (Nat → Int32) → (Nat → Nat → Int32) → Int32 × Int32 × (Nat → Int32) × (Nat → Int32) × (Nat → Nat → Int32)
  | 0, i, g1, u1, rv1 => (0, (-1), g1, u1, rv1)
  | d + 1, i, g1, u1, rv1 => ((fun (z_1 : Int32 × (Nat → Int32) × (Nat → Int32) × (Nat → Nat → Int32)) => (if z_1.1 = 0 then (lp_X7_leastLimit_19 g4 u4 rv4 g u rv x d (i + 100) z_1.2.1 z_1.2.2.1 z_1.2.2.2) else (0, (nI i), z_1.2.1, z_1.2.2.1, z_1.2.2.2))) (sX7_isKept g1 u1 rv1 g u rv (nI i) x))
def sX7_leastLimit (g4 : Nat → Int32) (u4 : Nat → Int32) (rv4 : Nat → Nat → Int32) (g : Nat → Int32) (u : Nat → Int32) (rv : Nat → Nat → Int32) (x : Int32) : Int32 × Int32 × (Nat → Int32) × (Nat → Int32) × (Nat → Nat → Int32) :=
  (if (sX5_canPass x) = 0 then (1, 0, g4, u4, rv4) else (lp_X7_leastLimit_19 g4 u4 rv4 g u rv x 100 0 g4 u4 rv4))
set_option maxRecDepth 100000 in
set_option maxHeartbeats 4000000 in
theorem c_X7_leastLimit (l : Launch) (hst : l.stackTraces = false) (G : va_G) (kk : Nat → ClassId) (h : Nat) (ad : Nat → Nat → Nat) (g4 : Nat → Int32) (u4 : Nat → Int32) (rv4 : Nat → Nat → Int32) (g : Nat → Int32) (u : Nat → Int32) (rv : Nat → Nat → Int32) (x : Int32) (hzb : ∀ i, i < 6 → zb (rv i 5)) : CX l yX7_leastLimit cX7_leastLimit 3 (some .int) (rmX 6 121) [.ref h, .int x] G kk ([(h, .inr (7, mrG ad))] ++ (stW kk (ad 4) g4 u4 rv4 ++ (stW kk (ad 3) g u rv))) (QIX G kk ([(h, .inr (7, mrG ad))] ++ (stW kk (ad 4) ((sX7_leastLimit g4 u4 rv4 g u rv x).2.2.1) ((sX7_leastLimit g4 u4 rv4 g u rv x).2.2.2.1) ((sX7_leastLimit g4 u4 rv4 g u rv x).2.2.2.2) ++ (stW kk (ad 3) g u rv))) ((sX7_leastLimit g4 u4 rv4 g u rv x).2.1) ((sX7_leastLimit g4 u4 rv4 g u rv x).1)) (XKX G kk ([(h, .inr (7, mrG ad))] ++ (stW kk (ad 4) ((sX7_leastLimit g4 u4 rv4 g u rv x).2.2.1) ((sX7_leastLimit g4 u4 rv4 g u rv x).2.2.2.1) ((sX7_leastLimit g4 u4 rv4 g u rv x).2.2.2.2) ++ (stW kk (ad 3) g u rv))) [1] ((sX7_leastLimit g4 u4 rv4 g u rv x).1)) := by
  refine cx_start (by decide +kernel) (Nat.le_of_ble_eq_true rfl) ?_
  intro p e s m below meth c A ls hx hb hr hml hown hts hlocks hA hE hK hP hD hS hl hxt
  have hown : s.vm.findClass RX7 = some m.cls := hown
  have hl : lv_has ls 3 [(0, .ref h), (1, .int x)] := hl
  have eS : sX7_leastLimit g4 u4 rv4 g u rv x = sX7_leastLimit g4 u4 rv4 g u rv x := rfl
  refine lv_iload_n hx hb dX7_leastLimit_0 rfl (lv_at hl 1 rfl) ?_
  refine k_goI (k_runS (rest := []) (As := [.int x]) hx hb hml hown hts hK hP hD hS hA hE hl.1 (c_X5_canPass l G kk x ) sl_X7_198 ⟨Nat.le_of_ble_eq_true rfl, Nat.le_of_ble_eq_true rfl, rfl, rfl⟩ ([]) (by decide +kernel) mp_nil ⟨Nat.zero_le _, Nat.zero_le _⟩ rfl (Nat.le_of_ble_eq_true rfl) dX7_leastLimit_1) hP hD hS hA ([]) mp_nil ads0 (fun H locs hP hD hS => ?_)
  replace hP : va_P G vwCl ([(h, .inr (7, mrG ad))] ++ (stW kk (ad 4) g4 u4 rv4 ++ (stW kk (ad 3) g u rv))) H := hP
  replace hD : va_D A ([(h, .inr (7, mrG ad))] ++ (stW kk (ad 4) g4 u4 rv4 ++ (stW kk (ad 3) g u rv))) := hD
  refine lv_if_ne (tgt := 17) hx hb dX7_leastLimit_4 (by decide) (fun c_4 => ?_) (fun c_4 => ?_)
  · have eS := eS.trans (if_neg c_4)
    have hn := canPass_e c_4
    refine lv_iconst (v := 0) hx hb dX7_leastLimit_17 (by decide) ?_
    refine lv_istore_n (lv' := [(2, .int 0), (0, .ref h), (1, .int x)]) hx hb dX7_leastLimit_18 rfl hl (by decide) rfl (fun ls hl => ?_)
    have L_2 : ∀ (d : Nat) (i : Nat) (g1 : Nat → Int32) (u1 : Nat → Int32) (rv1 : Nat → Nat → Int32) (hd : i + 100 * d = 10000) (eS : sX7_leastLimit g4 u4 rv4 g u rv x = lp_X7_leastLimit_19 g4 u4 rv4 g u rv x d i g1 u1 rv1) (H : Heap) (locs : List Loc) (ls : Array Slot) (hP : va_P G vwCl ([(h, .inr (7, mrG ad))] ++ (stW kk (ad 4) g1 u1 rv1 ++ (stW kk (ad 3) g u rv))) H) (hD : va_D A ([(h, .inr (7, mrG ad))] ++ (stW kk (ad 4) g1 u1 rv1 ++ (stW kk (ad 3) g u rv)))) (hS : va_S A s.heap H locs) (hl : lv_has ls 3 [(0, .ref h), (1, .int x), (2, .int (nI i))]), GOX p l e (rmX 6 121) s m ([.ref h, .int x] : List Value).toArray below meth c A (QIX G kk ([(h, .inr (7, mrG ad))] ++ (stW kk (ad 4) ((sX7_leastLimit g4 u4 rv4 g u rv x).2.2.1) ((sX7_leastLimit g4 u4 rv4 g u rv x).2.2.2.1) ((sX7_leastLimit g4 u4 rv4 g u rv x).2.2.2.2) ++ (stW kk (ad 3) g u rv))) ((sX7_leastLimit g4 u4 rv4 g u rv x).2.1) ((sX7_leastLimit g4 u4 rv4 g u rv x).1)) (XKX G kk ([(h, .inr (7, mrG ad))] ++ (stW kk (ad 4) ((sX7_leastLimit g4 u4 rv4 g u rv x).2.2.1) ((sX7_leastLimit g4 u4 rv4 g u rv x).2.2.2.1) ((sX7_leastLimit g4 u4 rv4 g u rv x).2.2.2.2) ++ (stW kk (ad 3) g u rv))) [1] ((sX7_leastLimit g4 u4 rv4 g u rv x).1)) H locs (F0 m 19 ls []) := by
      intro d
      induction d with
      | zero =>
        intro i g1 u1 rv1 hd eS H locs ls hP hD hS hl
        refine lv_iload_n hx hb dX7_leastLimit_19 rfl (lv_at hl 2 rfl) ?_
        refine lv_sipush (v := 9900) hx hb dX7_leastLimit_20 (by decide) ?_
        refine lv_icmp_gt (tgt := 43) hx hb dX7_leastLimit_23 (by decide) (fun c_23 => ?_) (fun c_23 => absurd (nI_lt (a := 9900) (b := i) (by omega) (by omega)) c_23)
        refine lv_iconst (v := (-1)) hx hb dX7_leastLimit_43 (by decide) ?_
        exact fin_ix hx hb hr hlocks hK (vP_eq (congrArg (fun z : Int32 × Int32 × (Nat → Int32) × (Nat → Int32) × (Nat → Nat → Int32) => ([(h, .inr (7, mrG ad))] ++ (stW kk (ad 4) z.2.2.1 z.2.2.2.1 z.2.2.2.2 ++ (stW kk (ad 3) g u rv)) : va_W)) eS.symm) hP) (vD_eq (congrArg (fun z : Int32 × Int32 × (Nat → Int32) × (Nat → Int32) × (Nat → Nat → Int32) => ([(h, .inr (7, mrG ad))] ++ (stW kk (ad 4) z.2.2.1 z.2.2.2.1 z.2.2.2.2 ++ (stW kk (ad 3) g u rv)) : va_W)) eS.symm) hD) hS (congrArg (fun z : Int32 × Int32 × (Nat → Int32) × (Nat → Int32) × (Nat → Nat → Int32) => z.2.1) eS) (congrArg (fun z : Int32 × Int32 × (Nat → Int32) × (Nat → Int32) × (Nat → Nat → Int32) => z.1) eS) dX7_leastLimit_44
      | succ d ih =>
        intro i g1 u1 rv1 hd eS H locs ls hP hD hS hl
        refine lv_iload_n hx hb dX7_leastLimit_19 rfl (lv_at hl 2 rfl) ?_
        refine lv_sipush (v := 9900) hx hb dX7_leastLimit_20 (by decide) ?_
        refine lv_icmp_gt (tgt := 43) hx hb dX7_leastLimit_23 (by decide) (fun c_23 => absurd c_23 ((fun q => absurd ((nI_ltI (a := 9900) (b := i) (by omega) (by omega)).mp q) (by omega)))) (fun c_23 => ?_)
        refine lv_aload_n hx hb dX7_leastLimit_26 rfl (lv_at hl 0 rfl) ?_
        refine lv_iload_n hx hb dX7_leastLimit_27 rfl (lv_at hl 2 rfl) ?_
        refine lv_iload_n hx hb dX7_leastLimit_28 rfl (lv_at hl 1 rfl) ?_
        refine k_goI (k_runV (rest := []) (As := [.int (nI i), .int x]) hx hb hml hown hts hK hP hD hS hA hE hl.1 (c_X7_isKept l G kk h ad g1 u1 rv1 g u rv (nI i) x hzb hn) vl_X7_245 rfl rfl rfl ⟨Nat.le_of_ble_eq_true rfl, Nat.le_of_ble_eq_true rfl, rfl, rfl⟩ ([0] ++ (List.range' 1 9 ++ (List.range' 10 9))) (by decide +kernel) (mp_b (mp_c rfl mp_nil) (mp_b (skip_map (m := 1) (n := 0) (sg_C st_len) rfl) (skip_map (m := 1) (n := 9) (skip_map (m := 9) (n := 0) (sg_Ce st_len) st_len) rfl))) ⟨Nat.zero_le _, Nat.zero_le _⟩ rfl (Nat.le_of_ble_eq_true rfl) dX7_leastLimit_29) hP hD hS hA ([0] ++ (List.range' 1 9 ++ (List.range' 10 9))) (mp_b (mp_c rfl mp_nil) (mp_b (skip_map (m := 1) (n := 0) (sg_C st_len) rfl) (skip_map (m := 1) (n := 9) (skip_map (m := 9) (n := 0) (sg_Ce st_len) st_len) rfl))) (ads_app ads1 (ads_app st_ads st_ads)) (fun H locs hP hD hS => ?_)
        replace hP : va_P G vwCl ([(h, .inr (7, mrG ad))] ++ (stW kk (ad 4) ((sX7_isKept g1 u1 rv1 g u rv (nI i) x).2.1) ((sX7_isKept g1 u1 rv1 g u rv (nI i) x).2.2.1) ((sX7_isKept g1 u1 rv1 g u rv (nI i) x).2.2.2) ++ (stW kk (ad 3) g u rv))) H := vP_eq2 hP (sm_b (ws1 := [(h, .inr (7, mrG ad))] ++ (stW kk (ad 4) g1 u1 rv1 ++ (stW kk (ad 3) g u rv))) (sm_c (ws1 := [(h, .inr (7, mrG ad))] ++ (stW kk (ad 4) g1 u1 rv1 ++ (stW kk (ad 3) g u rv))) (by exact rfl) rfl) rfl (sm_b (ws1 := [(h, .inr (7, mrG ad))] ++ (stW kk (ad 4) ((sX7_isKept g1 u1 rv1 g u rv (nI i) x).2.1) ((sX7_isKept g1 u1 rv1 g u rv (nI i) x).2.2.1) ((sX7_isKept g1 u1 rv1 g u rv (nI i) x).2.2.2) ++ (stW kk (ad 3) g u rv))) (skip_set (m := 1) (n := 0) (sg_S st_len st_len) rfl) rl_st (skip_set (m := 1) (n := 9) (skip_set (m := 9) (n := 0) (sg_Se st_len st_len) st_len) rfl)))
        replace hD : va_D A ([(h, .inr (7, mrG ad))] ++ (stW kk (ad 4) ((sX7_isKept g1 u1 rv1 g u rv (nI i) x).2.1) ((sX7_isKept g1 u1 rv1 g u rv (nI i) x).2.2.1) ((sX7_isKept g1 u1 rv1 g u rv (nI i) x).2.2.2) ++ (stW kk (ad 3) g u rv))) := vD_eq2 hD (sm_b (ws1 := [(h, .inr (7, mrG ad))] ++ (stW kk (ad 4) g1 u1 rv1 ++ (stW kk (ad 3) g u rv))) (sm_c (ws1 := [(h, .inr (7, mrG ad))] ++ (stW kk (ad 4) g1 u1 rv1 ++ (stW kk (ad 3) g u rv))) (by exact rfl) rfl) rfl (sm_b (ws1 := [(h, .inr (7, mrG ad))] ++ (stW kk (ad 4) ((sX7_isKept g1 u1 rv1 g u rv (nI i) x).2.1) ((sX7_isKept g1 u1 rv1 g u rv (nI i) x).2.2.1) ((sX7_isKept g1 u1 rv1 g u rv (nI i) x).2.2.2) ++ (stW kk (ad 3) g u rv))) (skip_set (m := 1) (n := 0) (sg_S st_len st_len) rfl) rl_st (skip_set (m := 1) (n := 9) (skip_set (m := 9) (n := 0) (sg_Se st_len st_len) st_len) rfl)))
        have eS : sX7_leastLimit g4 u4 rv4 g u rv x = (fun (z_1 : Int32 × (Nat → Int32) × (Nat → Int32) × (Nat → Nat → Int32)) => (if z_1.1 = 0 then (lp_X7_leastLimit_19 g4 u4 rv4 g u rv x d (i + 100) z_1.2.1 z_1.2.2.1 z_1.2.2.2) else (0, (nI i), z_1.2.1, z_1.2.2.1, z_1.2.2.2))) (sX7_isKept g1 u1 rv1 g u rv (nI i) x) := eS
        generalize sX7_isKept g1 u1 rv1 g u rv (nI i) x = z_1 at hP hD eS ⊢
        refine lv_if_eq (tgt := 37) hx hb dX7_leastLimit_32 (by decide) (fun c_32 => ?_) (fun c_32 => ?_)
        · have eS := eS.trans (if_pos c_32)
          refine lv_iinc (v := (nI (i + 100))) (lv' := [(2, .int (nI (i + 100))), (0, .ref h), (1, .int x)]) hx hb dX7_leastLimit_37 hl (k := 2) rfl (nI_add i 100) (by decide) rfl (fun ls hl => ?_)
          refine lv_goto (tgt := 19) hx hb dX7_leastLimit_40 (by decide) ?_
          exact ih (i + 100) z_1.2.1 z_1.2.2.1 z_1.2.2.2 (by omega) eS _ _ ls hP hD hS (lv_sub hl [1, 2, 0] rfl)
        · have eS := eS.trans (if_neg c_32)
          refine lv_iload_n hx hb dX7_leastLimit_35 rfl (lv_at hl 2 rfl) ?_
          exact fin_ix hx hb hr hlocks hK (vP_eq (congrArg (fun z : Int32 × Int32 × (Nat → Int32) × (Nat → Int32) × (Nat → Nat → Int32) => ([(h, .inr (7, mrG ad))] ++ (stW kk (ad 4) z.2.2.1 z.2.2.2.1 z.2.2.2.2 ++ (stW kk (ad 3) g u rv)) : va_W)) eS.symm) hP) (vD_eq (congrArg (fun z : Int32 × Int32 × (Nat → Int32) × (Nat → Int32) × (Nat → Nat → Int32) => ([(h, .inr (7, mrG ad))] ++ (stW kk (ad 4) z.2.2.1 z.2.2.2.1 z.2.2.2.2 ++ (stW kk (ad 3) g u rv)) : va_W)) eS.symm) hD) hS (congrArg (fun z : Int32 × Int32 × (Nat → Int32) × (Nat → Int32) × (Nat → Nat → Int32) => z.2.1) eS) (congrArg (fun z : Int32 × Int32 × (Nat → Int32) × (Nat → Int32) × (Nat → Nat → Int32) => z.1) eS) dX7_leastLimit_36
    exact L_2 100 0 g4 u4 rv4 rfl eS _ _ ls hP hD hS (lv_sub hl [1, 2, 0] rfl)
  · have eS := eS.trans (if_pos c_4)
    exact fin_x (k := 1) hst hx hb hown hts hlocks hE hK (vP_eq (congrArg (fun z : Int32 × Int32 × (Nat → Int32) × (Nat → Int32) × (Nat → Nat → Int32) => ([(h, .inr (7, mrG ad))] ++ (stW kk (ad 4) z.2.2.1 z.2.2.2.1 z.2.2.2.2 ++ (stW kk (ad 3) g u rv)) : va_W)) eS.symm) hP) (vD_eq (congrArg (fun z : Int32 × Int32 × (Nat → Int32) × (Nat → Int32) × (Nat → Nat → Int32) => ([(h, .inr (7, mrG ad))] ++ (stW kk (ad 4) z.2.2.1 z.2.2.2.1 z.2.2.2.2 ++ (stW kk (ad 3) g u rv)) : va_W)) eS.symm) hD) hS hl.1 hml hxt tw_1 st_201 ⟨rfl, by decide⟩ (congrArg (fun z : Int32 × Int32 × (Nat → Int32) × (Nat → Int32) × (Nat → Nat → Int32) => z.1) eS) (Nat.le_of_ble_eq_true rfl) (Nat.le_of_ble_eq_true rfl) (Nat.le_refl _) (Nat.le_refl _) dX7_leastLimit_7 dX7_leastLimit_10 dX7_leastLimit_11 dX7_leastLimit_13 dX7_leastLimit_16
