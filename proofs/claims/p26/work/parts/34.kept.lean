def lp_X7_isKept_23 (g4 : Nat → Int32) (u4 : Nat → Int32) (rv4 : Nat → Nat → Int32) (g : Nat → Int32) (u : Nat → Int32) (rv : Nat → Nat → Int32) (x : Int32) (y : Int32) (z_1 : (Nat → Int32) × (Nat → Int32) × (Nat → Nat → Int32)) (z_2 : Int32 × (Nat → Int32)) : Nat → Nat → (Nat → Int32) → (Nat → Nat → Int32) → Int32 × (Nat → Int32) × (Nat → Int32) × (Nat → Nat → Int32)
  | 0, i, g1, rv1 => (if (g1 3) = (g 3) then (1, g1, z_2.2, rv1) else (0, g1, z_2.2, rv1))
  | d + 1, i, g1, rv1 => (if (g1 3) = (g 3) then ((fun (z_3 : (Nat → Int32) × (Nat → Nat → Int32)) => (lp_X7_isKept_23 g4 u4 rv4 g u rv x y z_1 z_2 d (i + 1) z_3.1 z_3.2)) (sX5_passMinute g1 z_2.2 rv1)) else (if (g1 3) = (g 3) then (1, g1, z_2.2, rv1) else (0, g1, z_2.2, rv1)))
def sX7_isKept_z_2 (g4 : Nat → Int32) (u4 : Nat → Int32) (rv4 : Nat → Nat → Int32) (g : Nat → Int32) (u : Nat → Int32) (rv : Nat → Nat → Int32) (x : Int32) (y : Int32) (z_1 : (Nat → Int32) × (Nat → Int32) × (Nat → Nat → Int32)) (z_2 : Int32 × (Nat → Int32)) : Int32 × (Nat → Int32) × (Nat → Int32) × (Nat → Nat → Int32) :=
  (lp_X7_isKept_23 g4 u4 rv4 g u rv x y z_1 z_2 y.toNatClampNeg 0 z_1.1 z_1.2.2)
def sX7_isKept_z_1 (g4 : Nat → Int32) (u4 : Nat → Int32) (rv4 : Nat → Nat → Int32) (g : Nat → Int32) (u : Nat → Int32) (rv : Nat → Nat → Int32) (x : Int32) (y : Int32) (z_1 : (Nat → Int32) × (Nat → Int32) × (Nat → Nat → Int32)) : Int32 × (Nat → Int32) × (Nat → Int32) × (Nat → Nat → Int32) :=
  (sX7_isKept_z_2 g4 u4 rv4 g u rv x y z_1 (sX5_changeSetting z_1.1 z_1.2.1 z_1.2.2 0 x))
def sX7_isKept (g4 : Nat → Int32) (u4 : Nat → Int32) (rv4 : Nat → Nat → Int32) (g : Nat → Int32) (u : Nat → Int32) (rv : Nat → Nat → Int32) (x : Int32) (y : Int32) : Int32 × (Nat → Int32) × (Nat → Int32) × (Nat → Nat → Int32) :=
  (sX7_isKept_z_1 g4 u4 rv4 g u rv x y (sX5_copyFrom g4 u4 rv4 g u rv))
set_option maxRecDepth 100000 in
set_option maxHeartbeats 4000000 in
theorem c_X7_isKept (l : Launch) (G : va_G) (kk : Nat → ClassId) (h : Nat) (ad : Nat → Nat → Nat) (g4 : Nat → Int32) (u4 : Nat → Int32) (rv4 : Nat → Nat → Int32) (g : Nat → Int32) (u : Nat → Int32) (rv : Nat → Nat → Int32) (x : Int32) (y : Int32) (hzb : ∀ i, i < 6 → zb (rv i 5)) (hy : y = nI y.toNatClampNeg) : CC l yX7_isKept cX7_isKept 4 (some .boolean) (rmO 4 98) [.ref h, .int x, .int y] G kk ([(h, .inr (7, mrG ad))] ++ (stW kk (ad 4) g4 u4 rv4 ++ (stW kk (ad 3) g u rv))) (QI G kk ([(h, .inr (7, mrG ad))] ++ (stW kk (ad 4) ((sX7_isKept g4 u4 rv4 g u rv x y).2.1) ((sX7_isKept g4 u4 rv4 g u rv x y).2.2.1) ((sX7_isKept g4 u4 rv4 g u rv x y).2.2.2) ++ (stW kk (ad 3) g u rv))) ((sX7_isKept g4 u4 rv4 g u rv x y).1)) := by
  refine cc_start (by decide +kernel) (Nat.le_of_ble_eq_true rfl) ?_
  intro p e s m below meth c A ls hx hb hr hml hown hts hlocks hA hE hK hP hD hS hl
  have hown : s.vm.findClass RX7 = some m.cls := hown
  have hl : lv_has ls 4 [(0, .ref h), (1, .int x), (2, .int y)] := hl
  have eS : sX7_isKept g4 u4 rv4 g u rv x y = sX7_isKept g4 u4 rv4 g u rv x y := rfl
  refine lv_aload_n hx hb dX7_isKept_0 rfl (lv_at hl 0 rfl) ?_
  refine r_get (v := .ref ((ad 4) 0)) hx hb hts hown hK hP fl_X7_26 0 rfl rfl dX7_isKept_1 ?_
  refine lv_aload_n hx hb dX7_isKept_4 rfl (lv_at hl 0 rfl) ?_
  refine r_get (v := .ref ((ad 3) 0)) hx hb hts hown hK hP fl_X7_23 0 rfl rfl dX7_isKept_5 ?_
  refine k_goV (k_runV (rest := []) (As := [.ref ((ad 3) 0)]) hx hb hml hown hts hK hP hD hS hA hE hl.1 (c_X5_copyFrom l G kk (ad 4) (ad 3) g4 u4 rv4 g u rv hzb) vl_X7_81 rfl rfl rfl ⟨Nat.le_of_ble_eq_true rfl, Nat.le_of_ble_eq_true rfl, rfl, rfl⟩ (List.range' 1 9 ++ (List.range' 10 9)) (by decide +kernel) (mp_b (skip_map (m := 1) (n := 0) (sg_C st_len) rfl) (skip_map (m := 1) (n := 9) (skip_map (m := 9) (n := 0) (sg_Ce st_len) st_len) rfl)) ⟨Nat.zero_le _, Nat.zero_le _⟩ rfl (Nat.le_of_ble_eq_true rfl) dX7_isKept_8) hP hD hS hA (List.range' 1 9 ++ (List.range' 10 9)) (mp_b (skip_map (m := 1) (n := 0) (sg_C st_len) rfl) (skip_map (m := 1) (n := 9) (skip_map (m := 9) (n := 0) (sg_Ce st_len) st_len) rfl)) (ads_app st_ads st_ads) (fun H locs hP hD hS => ?_)
  replace hP : va_P G vwCl ([(h, .inr (7, mrG ad))] ++ (stW kk (ad 4) ((sX5_copyFrom g4 u4 rv4 g u rv).1) ((sX5_copyFrom g4 u4 rv4 g u rv).2.1) ((sX5_copyFrom g4 u4 rv4 g u rv).2.2) ++ (stW kk (ad 3) g u rv))) H := vP_eq2 hP (sm_b (ws1 := [(h, .inr (7, mrG ad))] ++ (stW kk (ad 4) ((sX5_copyFrom g4 u4 rv4 g u rv).1) ((sX5_copyFrom g4 u4 rv4 g u rv).2.1) ((sX5_copyFrom g4 u4 rv4 g u rv).2.2) ++ (stW kk (ad 3) g u rv))) (skip_set (m := 1) (n := 0) (sg_S st_len st_len) rfl) rl_st (skip_set (m := 1) (n := 9) (skip_set (m := 9) (n := 0) (sg_Se st_len st_len) st_len) rfl))
  replace hD : va_D A ([(h, .inr (7, mrG ad))] ++ (stW kk (ad 4) ((sX5_copyFrom g4 u4 rv4 g u rv).1) ((sX5_copyFrom g4 u4 rv4 g u rv).2.1) ((sX5_copyFrom g4 u4 rv4 g u rv).2.2) ++ (stW kk (ad 3) g u rv))) := vD_eq2 hD (sm_b (ws1 := [(h, .inr (7, mrG ad))] ++ (stW kk (ad 4) ((sX5_copyFrom g4 u4 rv4 g u rv).1) ((sX5_copyFrom g4 u4 rv4 g u rv).2.1) ((sX5_copyFrom g4 u4 rv4 g u rv).2.2) ++ (stW kk (ad 3) g u rv))) (skip_set (m := 1) (n := 0) (sg_S st_len st_len) rfl) rl_st (skip_set (m := 1) (n := 9) (skip_set (m := 9) (n := 0) (sg_Se st_len st_len) st_len) rfl))
  have eS : sX7_isKept g4 u4 rv4 g u rv x y = sX7_isKept_z_1 g4 u4 rv4 g u rv x y (sX5_copyFrom g4 u4 rv4 g u rv) := eS
  generalize sX5_copyFrom g4 u4 rv4 g u rv = z_1 at hP hD eS ⊢
  refine lv_aload_n hx hb dX7_isKept_11 rfl (lv_at hl 0 rfl) ?_
  refine r_get (v := .ref ((ad 4) 0)) hx hb hts hown hK hP fl_X7_26 0 rfl rfl dX7_isKept_12 ?_
  refine lv_iconst (v := 0) hx hb dX7_isKept_15 (by decide) ?_
  refine lv_iload_n hx hb dX7_isKept_16 rfl (lv_at hl 1 rfl) ?_
  refine k_goI (k_runV (rest := []) (As := [.int 0, .int x]) hx hb hml hown hts hK hP hD hS hA hE hl.1 (c_X5_changeSetting l G kk (ad 4) z_1.1 z_1.2.1 z_1.2.2 0 x ) vl_X7_124 rfl rfl rfl ⟨Nat.le_of_ble_eq_true rfl, Nat.le_of_ble_eq_true rfl, rfl, rfl⟩ (List.range' 1 9) (by decide +kernel) (skip_map (m := 1) (n := 0) (sg_C st_len) rfl) ⟨Nat.zero_le _, Nat.zero_le _⟩ rfl (Nat.le_of_ble_eq_true rfl) dX7_isKept_17) hP hD hS hA (List.range' 1 9) (skip_map (m := 1) (n := 0) (sg_C st_len) rfl) st_ads (fun H locs hP hD hS => ?_)
  replace hP : va_P G vwCl ([(h, .inr (7, mrG ad))] ++ (stW kk (ad 4) z_1.1 ((sX5_changeSetting z_1.1 z_1.2.1 z_1.2.2 0 x).2) z_1.2.2 ++ (stW kk (ad 3) g u rv))) H := vP_eq2 hP (skip_set (m := 1) (n := 0) (sg_S st_len st_len) rfl)
  replace hD : va_D A ([(h, .inr (7, mrG ad))] ++ (stW kk (ad 4) z_1.1 ((sX5_changeSetting z_1.1 z_1.2.1 z_1.2.2 0 x).2) z_1.2.2 ++ (stW kk (ad 3) g u rv))) := vD_eq2 hD (skip_set (m := 1) (n := 0) (sg_S st_len st_len) rfl)
  have eS : sX7_isKept g4 u4 rv4 g u rv x y = sX7_isKept_z_2 g4 u4 rv4 g u rv x y z_1 (sX5_changeSetting z_1.1 z_1.2.1 z_1.2.2 0 x) := eS
  generalize sX5_changeSetting z_1.1 z_1.2.1 z_1.2.2 0 x = z_2 at hP hD eS ⊢
  refine lv_pop hx hb dX7_isKept_20 rfl ?_
  refine lv_iconst (v := 0) hx hb dX7_isKept_21 (by decide) ?_
  refine lv_istore_n (lv' := [(3, .int 0), (0, .ref h), (1, .int x), (2, .int y)]) hx hb dX7_isKept_22 rfl hl (by decide) rfl (fun ls hl => ?_)
  have L_4 : ∀ (d : Nat) (i : Nat) (g1 : Nat → Int32) (rv1 : Nat → Nat → Int32) (hd : i + d = y.toNatClampNeg) (eS : sX7_isKept g4 u4 rv4 g u rv x y = lp_X7_isKept_23 g4 u4 rv4 g u rv x y z_1 z_2 d i g1 rv1) (H : Heap) (locs : List Loc) (ls : Array Slot) (hP : va_P G vwCl ([(h, .inr (7, mrG ad))] ++ (stW kk (ad 4) g1 z_2.2 rv1 ++ (stW kk (ad 3) g u rv))) H) (hD : va_D A ([(h, .inr (7, mrG ad))] ++ (stW kk (ad 4) g1 z_2.2 rv1 ++ (stW kk (ad 3) g u rv)))) (hS : va_S A s.heap H locs) (hl : lv_has ls 4 [(0, .ref h), (1, .int x), (2, .int y), (3, .int (nI i))]), GO p l e (rmO 4 98) s m ([.ref h, .int x, .int y] : List Value).toArray below meth c A (QI G kk ([(h, .inr (7, mrG ad))] ++ (stW kk (ad 4) ((sX7_isKept g4 u4 rv4 g u rv x y).2.1) ((sX7_isKept g4 u4 rv4 g u rv x y).2.2.1) ((sX7_isKept g4 u4 rv4 g u rv x y).2.2.2) ++ (stW kk (ad 3) g u rv))) ((sX7_isKept g4 u4 rv4 g u rv x y).1)) H locs (F0 m 23 ls []) := by
    intro d
    induction d with
    | zero =>
      intro i g1 rv1 hd eS H locs ls hP hD hS hl
      refine lv_iload_n hx hb dX7_isKept_23 rfl (lv_at hl 3 rfl) ?_
      refine lv_iload_n hx hb dX7_isKept_24 rfl (lv_at hl 2 rfl) ?_
      refine lv_icmp_ge (tgt := 58) hx hb dX7_isKept_25 (by decide) (fun c_25 => ?_) (fun c_25 => absurd (cl_le hy (by omega) (by have := @cl_b y; omega)) c_25)
      refine lv_aload_n hx hb dX7_isKept_58 rfl (lv_at hl 0 rfl) ?_
      refine r_get (v := .ref ((ad 4) 0)) hx hb hts hown hK hP fl_X7_26 0 rfl rfl dX7_isKept_59 ?_
      refine r_getN (v := .int (g1 3)) hE hx hb hts hown hK hP fn_X7_233 1 (sk_get (m := 1) (n := 0) rfl rfl) rfl dX7_isKept_62 ?_
      refine lv_aload_n hx hb dX7_isKept_65 rfl (lv_at hl 0 rfl) ?_
      refine r_get (v := .ref ((ad 3) 0)) hx hb hts hown hK hP fl_X7_23 0 rfl rfl dX7_isKept_66 ?_
      refine r_getN (v := .int (g 3)) hE hx hb hts hown hK hP fn_X7_233 10 (sk_get (m := 1) (n := 9) (sk_get (m := 9) (n := 0) rfl st_len) rfl) rfl dX7_isKept_69 ?_
      refine lv_icmp_ne (tgt := 79) hx hb dX7_isKept_72 (by decide) (fun c_72 => ?_) (fun c_72 => ?_)
      · have eS := eS.trans (if_neg c_72)
        refine lv_iconst (v := 0) hx hb dX7_isKept_79 (by decide) ?_
        exact fin_z hx hb hr hlocks hK (vP_eq (congrArg (fun z : Int32 × (Nat → Int32) × (Nat → Int32) × (Nat → Nat → Int32) => ([(h, .inr (7, mrG ad))] ++ (stW kk (ad 4) z.2.1 z.2.2.1 z.2.2.2 ++ (stW kk (ad 3) g u rv)) : va_W)) eS.symm) hP) (vD_eq (congrArg (fun z : Int32 × (Nat → Int32) × (Nat → Int32) × (Nat → Nat → Int32) => ([(h, .inr (7, mrG ad))] ++ (stW kk (ad 4) z.2.1 z.2.2.1 z.2.2.2 ++ (stW kk (ad 3) g u rv)) : va_W)) eS.symm) hD) hS (congrArg (fun z : Int32 × (Nat → Int32) × (Nat → Int32) × (Nat → Nat → Int32) => z.1) eS) rfl dX7_isKept_80
      · have eS := eS.trans (if_pos c_72)
        refine lv_iconst (v := 1) hx hb dX7_isKept_75 (by decide) ?_
        refine lv_goto (tgt := 80) hx hb dX7_isKept_76 (by decide) ?_
        exact fin_z hx hb hr hlocks hK (vP_eq (congrArg (fun z : Int32 × (Nat → Int32) × (Nat → Int32) × (Nat → Nat → Int32) => ([(h, .inr (7, mrG ad))] ++ (stW kk (ad 4) z.2.1 z.2.2.1 z.2.2.2 ++ (stW kk (ad 3) g u rv)) : va_W)) eS.symm) hP) (vD_eq (congrArg (fun z : Int32 × (Nat → Int32) × (Nat → Int32) × (Nat → Nat → Int32) => ([(h, .inr (7, mrG ad))] ++ (stW kk (ad 4) z.2.1 z.2.2.1 z.2.2.2 ++ (stW kk (ad 3) g u rv)) : va_W)) eS.symm) hD) hS (congrArg (fun z : Int32 × (Nat → Int32) × (Nat → Int32) × (Nat → Nat → Int32) => z.1) eS) rfl dX7_isKept_80
    | succ d ih =>
      intro i g1 rv1 hd eS H locs ls hP hD hS hl
      refine lv_iload_n hx hb dX7_isKept_23 rfl (lv_at hl 3 rfl) ?_
      refine lv_iload_n hx hb dX7_isKept_24 rfl (lv_at hl 2 rfl) ?_
      refine lv_icmp_ge (tgt := 58) hx hb dX7_isKept_25 (by decide) (fun c_25 => absurd c_25 (cl_gt hy (by omega) cl_b)) (fun c_25 => ?_)
      refine lv_aload_n hx hb dX7_isKept_28 rfl (lv_at hl 0 rfl) ?_
      refine r_get (v := .ref ((ad 4) 0)) hx hb hts hown hK hP fl_X7_26 0 rfl rfl dX7_isKept_29 ?_
      refine r_getN (v := .int (g1 3)) hE hx hb hts hown hK hP fn_X7_233 1 (sk_get (m := 1) (n := 0) rfl rfl) rfl dX7_isKept_32 ?_
      refine lv_aload_n hx hb dX7_isKept_35 rfl (lv_at hl 0 rfl) ?_
      refine r_get (v := .ref ((ad 3) 0)) hx hb hts hown hK hP fl_X7_23 0 rfl rfl dX7_isKept_36 ?_
      refine r_getN (v := .int (g 3)) hE hx hb hts hown hK hP fn_X7_233 10 (sk_get (m := 1) (n := 9) (sk_get (m := 9) (n := 0) rfl st_len) rfl) rfl dX7_isKept_39 ?_
      refine lv_icmp_ne (tgt := 58) hx hb dX7_isKept_42 (by decide) (fun c_42 => ?_) (fun c_42 => ?_)
      · have eS := eS.trans (if_neg c_42)
        refine lv_aload_n hx hb dX7_isKept_58 rfl (lv_at hl 0 rfl) ?_
        refine r_get (v := .ref ((ad 4) 0)) hx hb hts hown hK hP fl_X7_26 0 rfl rfl dX7_isKept_59 ?_
        refine r_getN (v := .int (g1 3)) hE hx hb hts hown hK hP fn_X7_233 1 (sk_get (m := 1) (n := 0) rfl rfl) rfl dX7_isKept_62 ?_
        refine lv_aload_n hx hb dX7_isKept_65 rfl (lv_at hl 0 rfl) ?_
        refine r_get (v := .ref ((ad 3) 0)) hx hb hts hown hK hP fl_X7_23 0 rfl rfl dX7_isKept_66 ?_
        refine r_getN (v := .int (g 3)) hE hx hb hts hown hK hP fn_X7_233 10 (sk_get (m := 1) (n := 9) (sk_get (m := 9) (n := 0) rfl st_len) rfl) rfl dX7_isKept_69 ?_
        refine lv_icmp_ne (tgt := 79) hx hb dX7_isKept_72 (by decide) (fun c_72 => ?_) (fun c_72 => ?_)
        · have eS := eS.trans (if_neg c_72)
          refine lv_iconst (v := 0) hx hb dX7_isKept_79 (by decide) ?_
          exact fin_z hx hb hr hlocks hK (vP_eq (congrArg (fun z : Int32 × (Nat → Int32) × (Nat → Int32) × (Nat → Nat → Int32) => ([(h, .inr (7, mrG ad))] ++ (stW kk (ad 4) z.2.1 z.2.2.1 z.2.2.2 ++ (stW kk (ad 3) g u rv)) : va_W)) eS.symm) hP) (vD_eq (congrArg (fun z : Int32 × (Nat → Int32) × (Nat → Int32) × (Nat → Nat → Int32) => ([(h, .inr (7, mrG ad))] ++ (stW kk (ad 4) z.2.1 z.2.2.1 z.2.2.2 ++ (stW kk (ad 3) g u rv)) : va_W)) eS.symm) hD) hS (congrArg (fun z : Int32 × (Nat → Int32) × (Nat → Int32) × (Nat → Nat → Int32) => z.1) eS) rfl dX7_isKept_80
        · have eS := eS.trans (if_pos c_72)
          refine lv_iconst (v := 1) hx hb dX7_isKept_75 (by decide) ?_
          refine lv_goto (tgt := 80) hx hb dX7_isKept_76 (by decide) ?_
          exact fin_z hx hb hr hlocks hK (vP_eq (congrArg (fun z : Int32 × (Nat → Int32) × (Nat → Int32) × (Nat → Nat → Int32) => ([(h, .inr (7, mrG ad))] ++ (stW kk (ad 4) z.2.1 z.2.2.1 z.2.2.2 ++ (stW kk (ad 3) g u rv)) : va_W)) eS.symm) hP) (vD_eq (congrArg (fun z : Int32 × (Nat → Int32) × (Nat → Int32) × (Nat → Nat → Int32) => ([(h, .inr (7, mrG ad))] ++ (stW kk (ad 4) z.2.1 z.2.2.1 z.2.2.2 ++ (stW kk (ad 3) g u rv)) : va_W)) eS.symm) hD) hS (congrArg (fun z : Int32 × (Nat → Int32) × (Nat → Int32) × (Nat → Nat → Int32) => z.1) eS) rfl dX7_isKept_80
      · have eS := eS.trans (if_pos c_42)
        refine lv_aload_n hx hb dX7_isKept_45 rfl (lv_at hl 0 rfl) ?_
        refine r_get (v := .ref ((ad 4) 0)) hx hb hts hown hK hP fl_X7_26 0 rfl rfl dX7_isKept_46 ?_
        refine k_goV (k_runV (rest := []) (As := []) hx hb hml hown hts hK hP hD hS hA hE hl.1 (c_X5_passMinute l G kk (ad 4) g1 z_2.2 rv1 ) vl_X7_228 rfl rfl rfl ⟨Nat.le_of_ble_eq_true rfl, Nat.le_of_ble_eq_true rfl, rfl, rfl⟩ (List.range' 1 9) (by decide +kernel) (skip_map (m := 1) (n := 0) (sg_C st_len) rfl) ⟨Nat.zero_le _, Nat.zero_le _⟩ rfl (Nat.le_of_ble_eq_true rfl) dX7_isKept_49) hP hD hS hA (List.range' 1 9) (skip_map (m := 1) (n := 0) (sg_C st_len) rfl) st_ads (fun H locs hP hD hS => ?_)
        replace hP : va_P G vwCl ([(h, .inr (7, mrG ad))] ++ (stW kk (ad 4) ((sX5_passMinute g1 z_2.2 rv1).1) z_2.2 ((sX5_passMinute g1 z_2.2 rv1).2) ++ (stW kk (ad 3) g u rv))) H := vP_eq2 hP (skip_set (m := 1) (n := 0) (sg_S st_len st_len) rfl)
        replace hD : va_D A ([(h, .inr (7, mrG ad))] ++ (stW kk (ad 4) ((sX5_passMinute g1 z_2.2 rv1).1) z_2.2 ((sX5_passMinute g1 z_2.2 rv1).2) ++ (stW kk (ad 3) g u rv))) := vD_eq2 hD (skip_set (m := 1) (n := 0) (sg_S st_len st_len) rfl)
        have eS : sX7_isKept g4 u4 rv4 g u rv x y = (fun (z_3 : (Nat → Int32) × (Nat → Nat → Int32)) => (lp_X7_isKept_23 g4 u4 rv4 g u rv x y z_1 z_2 d (i + 1) z_3.1 z_3.2)) (sX5_passMinute g1 z_2.2 rv1) := eS
        generalize sX5_passMinute g1 z_2.2 rv1 = z_3 at hP hD eS ⊢
        refine lv_iinc (v := (nI (i + 1))) (lv' := [(3, .int (nI (i + 1))), (0, .ref h), (1, .int x), (2, .int y)]) hx hb dX7_isKept_52 hl (k := 3) rfl (nI_add i 1) (by decide) rfl (fun ls hl => ?_)
        refine lv_goto (tgt := 23) hx hb dX7_isKept_55 (by decide) ?_
        exact ih (i + 1) z_3.1 z_3.2 (by omega) eS _ _ ls hP hD hS (lv_sub hl [1, 2, 3, 0] rfl)
  exact L_4 y.toNatClampNeg 0 z_1.1 z_1.2.2 (Nat.zero_add _) eS _ _ ls hP hD hS (lv_sub hl [1, 2, 3, 0] rfl)
