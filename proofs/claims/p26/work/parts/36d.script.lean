def lp_X7_simulate_39 (g4 : Nat → Int32) (u4 : Nat → Int32) (rv4 : Nat → Nat → Int32) (g : Nat → Int32) (u : Nat → Int32) (rv : Nat → Nat → Int32) (sd : Int64) (y : Int32) (lc : Int64 → Int64) (hi : Int64 → Int32) (z_1 : (Nat → Int32) × (Nat → Int32) × (Nat → Nat → Int32)) : Nat → Nat → Int64 → (Nat → Int32) → (Nat → Int32) → (Nat → Nat → Int32) → Int32 × Int32 × (Nat → Int32) × (Nat → Int32) × (Nat → Nat → Int32)
  | 0, i, x1, g1, u1, rv1 => (0, ((1000 * ((g1 3) - (g 3))) + ((g1 6) - (g 6))), g1, u1, rv1)
  | d + 1, i, x1, g1, u1, rv1 => ((fun (z_2 : (Nat → Int32) × (Nat → Int32) × (Nat → Nat → Int32)) => (lp_X7_simulate_39 g4 u4 rv4 g u rv sd y lc hi z_1 d (i + 1) (lc x1) z_2.1 z_2.2.1 z_2.2.2)) (sX7_doTurn g1 u1 rv1 (hi (lc x1))))
def sX7_simulate_z_1 (g4 : Nat → Int32) (u4 : Nat → Int32) (rv4 : Nat → Nat → Int32) (g : Nat → Int32) (u : Nat → Int32) (rv : Nat → Nat → Int32) (sd : Int64) (y : Int32) (lc : Int64 → Int64) (hi : Int64 → Int32) (z_1 : (Nat → Int32) × (Nat → Int32) × (Nat → Nat → Int32)) : Int32 × Int32 × (Nat → Int32) × (Nat → Int32) × (Nat → Nat → Int32) :=
  (lp_X7_simulate_39 g4 u4 rv4 g u rv sd y lc hi z_1 y.toNatClampNeg 0 sd z_1.1 z_1.2.1 z_1.2.2)
def sX7_simulate (g4 : Nat → Int32) (u4 : Nat → Int32) (rv4 : Nat → Nat → Int32) (g : Nat → Int32) (u : Nat → Int32) (rv : Nat → Nat → Int32) (sd : Int64) (y : Int32) (lc : Int64 → Int64) (hi : Int64 → Int32) : Int32 × Int32 × (Nat → Int32) × (Nat → Int32) × (Nat → Nat → Int32) :=
  (if y < 1 then (1, 0, g4, u4, rv4) else (if y ≤ 60 then (sX7_simulate_z_1 g4 u4 rv4 g u rv sd y lc hi (sX5_copyFrom g4 u4 rv4 g u rv)) else (1, 0, g4, u4, rv4)))
set_option maxRecDepth 100000 in
set_option maxHeartbeats 4000000 in
theorem c_X7_simulate (l : Launch) (hst : l.stackTraces = false) (G : va_G) (kk : Nat → ClassId) (h : Nat) (ad : Nat → Nat → Nat) (g4 : Nat → Int32) (u4 : Nat → Int32) (rv4 : Nat → Nat → Int32) (g : Nat → Int32) (u : Nat → Int32) (rv : Nat → Nat → Int32) (sd : Int64) (y : Int32) (lc : Int64 → Int64) (hi : Int64 → Int32) (hzb : ∀ i, i < 6 → zb (rv i 5)) (hlc : ∀ x : Int64, x * 6364136223846793005 + 1442695040888963407 = lc x) (hhi : ∀ x : Int64, ((x.toUInt64 >>> ((33 : Int32).toInt64.toUInt64 &&& Int64.toUInt64 63)).toInt64).toInt32 = hi x) : CX l yX7_simulate cX7_simulate 7 (some .int) (rmX 6 142) [.ref h, .long sd, .int y] G kk ([(h, .inr (7, mrG ad))] ++ (stW kk (ad 4) g4 u4 rv4 ++ (stW kk (ad 3) g u rv))) (QIX G kk ([(h, .inr (7, mrG ad))] ++ (stW kk (ad 4) ((sX7_simulate g4 u4 rv4 g u rv sd y lc hi).2.2.1) ((sX7_simulate g4 u4 rv4 g u rv sd y lc hi).2.2.2.1) ((sX7_simulate g4 u4 rv4 g u rv sd y lc hi).2.2.2.2) ++ (stW kk (ad 3) g u rv))) ((sX7_simulate g4 u4 rv4 g u rv sd y lc hi).2.1) ((sX7_simulate g4 u4 rv4 g u rv sd y lc hi).1)) (XKX G kk ([(h, .inr (7, mrG ad))] ++ (stW kk (ad 4) ((sX7_simulate g4 u4 rv4 g u rv sd y lc hi).2.2.1) ((sX7_simulate g4 u4 rv4 g u rv sd y lc hi).2.2.2.1) ((sX7_simulate g4 u4 rv4 g u rv sd y lc hi).2.2.2.2) ++ (stW kk (ad 3) g u rv))) [1] ((sX7_simulate g4 u4 rv4 g u rv sd y lc hi).1)) := by
  refine cx_start (by decide +kernel) (Nat.le_of_ble_eq_true rfl) ?_
  intro p e s m below meth c A ls hx hb hr hml hown hts hlocks hA hE hK hP hD hS hl hxt
  have hown : s.vm.findClass RX7 = some m.cls := hown
  have hl : lv_has ls 7 [(0, .ref h), (1, .long sd), (3, .int y)] := hl
  have eS : sX7_simulate g4 u4 rv4 g u rv sd y lc hi = sX7_simulate g4 u4 rv4 g u rv sd y lc hi := rfl
  refine lv_iload_n hx hb dX7_simulate_0 rfl (lv_at hl 2 rfl) ?_
  refine lv_iconst (v := 1) hx hb dX7_simulate_1 (by decide) ?_
  refine lv_icmp_lt (tgt := 11) hx hb dX7_simulate_2 (by decide) (fun c_2 => ?_) (fun c_2 => ?_)
  · have eS := eS.trans (if_pos c_2)
    exact fin_xw (k := 1) hst hx hb hown hts hlocks hE hK (vP_eq (congrArg (fun z : Int32 × Int32 × (Nat → Int32) × (Nat → Int32) × (Nat → Nat → Int32) => ([(h, .inr (7, mrG ad))] ++ (stW kk (ad 4) z.2.2.1 z.2.2.2.1 z.2.2.2.2 ++ (stW kk (ad 3) g u rv)) : va_W)) eS.symm) hP) (vD_eq (congrArg (fun z : Int32 × Int32 × (Nat → Int32) × (Nat → Int32) × (Nat → Nat → Int32) => ([(h, .inr (7, mrG ad))] ++ (stW kk (ad 4) z.2.2.1 z.2.2.2.1 z.2.2.2.2 ++ (stW kk (ad 3) g u rv)) : va_W)) eS.symm) hD) hS hl.1 hml hxt tw_1 st_276 ⟨rfl, by decide⟩ (congrArg (fun z : Int32 × Int32 × (Nat → Int32) × (Nat → Int32) × (Nat → Nat → Int32) => z.1) eS) (Nat.le_of_ble_eq_true rfl) (Nat.le_of_ble_eq_true rfl) (Nat.le_refl _) (Nat.le_refl _) dX7_simulate_11 dX7_simulate_14 dX7_simulate_15 dX7_simulate_18 dX7_simulate_21
  · have eS := eS.trans (if_neg c_2)
    refine lv_iload_n hx hb dX7_simulate_5 rfl (lv_at hl 2 rfl) ?_
    refine lv_bipush (v := 60) hx hb dX7_simulate_6 (by decide) ?_
    refine lv_icmp_le (tgt := 22) hx hb dX7_simulate_8 (by decide) (fun c_8 => ?_) (fun c_8 => ?_)
    · have eS := eS.trans (if_pos c_8)
      have hn := pos_e (Int32.not_lt.mp c_2)
      refine lv_aload_n hx hb dX7_simulate_22 rfl (lv_at hl 0 rfl) ?_
      refine r_get (v := .ref ((ad 4) 0)) hx hb hts hown hK hP fl_X7_26 0 rfl rfl dX7_simulate_23 ?_
      refine lv_aload_n hx hb dX7_simulate_26 rfl (lv_at hl 0 rfl) ?_
      refine r_get (v := .ref ((ad 3) 0)) hx hb hts hown hK hP fl_X7_23 0 rfl rfl dX7_simulate_27 ?_
      refine k_goV (k_runV (rest := []) (As := [.ref ((ad 3) 0)]) hx hb hml hown hts hK hP hD hS hA hE hl.1 (c_X5_copyFrom l G kk (ad 4) (ad 3) g4 u4 rv4 g u rv hzb) vl_X7_81 rfl rfl rfl ⟨Nat.le_of_ble_eq_true rfl, Nat.le_of_ble_eq_true rfl, rfl, rfl⟩ (List.range' 1 9 ++ (List.range' 10 9)) (by decide +kernel) (mp_b (skip_map (m := 1) (n := 0) (sg_C st_len) rfl) (skip_map (m := 1) (n := 9) (skip_map (m := 9) (n := 0) (sg_Ce st_len) st_len) rfl)) ⟨Nat.zero_le _, Nat.zero_le _⟩ rfl (Nat.le_of_ble_eq_true rfl) dX7_simulate_30) hP hD hS hA (List.range' 1 9 ++ (List.range' 10 9)) (mp_b (skip_map (m := 1) (n := 0) (sg_C st_len) rfl) (skip_map (m := 1) (n := 9) (skip_map (m := 9) (n := 0) (sg_Ce st_len) st_len) rfl)) (ads_app st_ads st_ads) (fun H locs hP hD hS => ?_)
      replace hP : va_P G vwCl ([(h, .inr (7, mrG ad))] ++ (stW kk (ad 4) ((sX5_copyFrom g4 u4 rv4 g u rv).1) ((sX5_copyFrom g4 u4 rv4 g u rv).2.1) ((sX5_copyFrom g4 u4 rv4 g u rv).2.2) ++ (stW kk (ad 3) g u rv))) H := vP_eq2 hP (sm_b (ws1 := [(h, .inr (7, mrG ad))] ++ (stW kk (ad 4) ((sX5_copyFrom g4 u4 rv4 g u rv).1) ((sX5_copyFrom g4 u4 rv4 g u rv).2.1) ((sX5_copyFrom g4 u4 rv4 g u rv).2.2) ++ (stW kk (ad 3) g u rv))) (skip_set (m := 1) (n := 0) (sg_S st_len st_len) rfl) rl_st (skip_set (m := 1) (n := 9) (skip_set (m := 9) (n := 0) (sg_Se st_len st_len) st_len) rfl))
      replace hD : va_D A ([(h, .inr (7, mrG ad))] ++ (stW kk (ad 4) ((sX5_copyFrom g4 u4 rv4 g u rv).1) ((sX5_copyFrom g4 u4 rv4 g u rv).2.1) ((sX5_copyFrom g4 u4 rv4 g u rv).2.2) ++ (stW kk (ad 3) g u rv))) := vD_eq2 hD (sm_b (ws1 := [(h, .inr (7, mrG ad))] ++ (stW kk (ad 4) ((sX5_copyFrom g4 u4 rv4 g u rv).1) ((sX5_copyFrom g4 u4 rv4 g u rv).2.1) ((sX5_copyFrom g4 u4 rv4 g u rv).2.2) ++ (stW kk (ad 3) g u rv))) (skip_set (m := 1) (n := 0) (sg_S st_len st_len) rfl) rl_st (skip_set (m := 1) (n := 9) (skip_set (m := 9) (n := 0) (sg_Se st_len st_len) st_len) rfl))
      have eS : sX7_simulate g4 u4 rv4 g u rv sd y lc hi = sX7_simulate_z_1 g4 u4 rv4 g u rv sd y lc hi (sX5_copyFrom g4 u4 rv4 g u rv) := eS
      generalize sX5_copyFrom g4 u4 rv4 g u rv = z_1 at hP hD eS ⊢
      refine lv_lload_n hx hb dX7_simulate_33 rfl (lv_at hl 1 rfl) ?_
      refine lv_lstore (lv' := [(4, .long sd), (0, .ref h), (1, .long sd), (3, .int y)]) hx hb dX7_simulate_34 hl (by decide) rfl (fun ls hl => ?_)
      refine lv_iconst (v := 0) hx hb dX7_simulate_36 (by decide) ?_
      refine lv_istore (lv' := [(6, .int 0), (4, .long sd), (0, .ref h), (1, .long sd), (3, .int y)]) hx hb dX7_simulate_37 hl (by decide) rfl (fun ls hl => ?_)
      have L_3 : ∀ (d : Nat) (i : Nat) (x1 : Int64) (g1 : Nat → Int32) (u1 : Nat → Int32) (rv1 : Nat → Nat → Int32) (hd : i + d = y.toNatClampNeg) (eS : sX7_simulate g4 u4 rv4 g u rv sd y lc hi = lp_X7_simulate_39 g4 u4 rv4 g u rv sd y lc hi z_1 d i x1 g1 u1 rv1) (H : Heap) (locs : List Loc) (ls : Array Slot) (hP : va_P G vwCl ([(h, .inr (7, mrG ad))] ++ (stW kk (ad 4) g1 u1 rv1 ++ (stW kk (ad 3) g u rv))) H) (hD : va_D A ([(h, .inr (7, mrG ad))] ++ (stW kk (ad 4) g1 u1 rv1 ++ (stW kk (ad 3) g u rv)))) (hS : va_S A s.heap H locs) (hl : lv_has ls 7 [(0, .ref h), (3, .int y), (6, .int (nI i)), (4, .long x1)]), GOX p l e (rmX 6 142) s m ([.ref h, .long sd, .int y] : List Value).toArray below meth c A (QIX G kk ([(h, .inr (7, mrG ad))] ++ (stW kk (ad 4) ((sX7_simulate g4 u4 rv4 g u rv sd y lc hi).2.2.1) ((sX7_simulate g4 u4 rv4 g u rv sd y lc hi).2.2.2.1) ((sX7_simulate g4 u4 rv4 g u rv sd y lc hi).2.2.2.2) ++ (stW kk (ad 3) g u rv))) ((sX7_simulate g4 u4 rv4 g u rv sd y lc hi).2.1) ((sX7_simulate g4 u4 rv4 g u rv sd y lc hi).1)) (XKX G kk ([(h, .inr (7, mrG ad))] ++ (stW kk (ad 4) ((sX7_simulate g4 u4 rv4 g u rv sd y lc hi).2.2.1) ((sX7_simulate g4 u4 rv4 g u rv sd y lc hi).2.2.2.1) ((sX7_simulate g4 u4 rv4 g u rv sd y lc hi).2.2.2.2) ++ (stW kk (ad 3) g u rv))) [1] ((sX7_simulate g4 u4 rv4 g u rv sd y lc hi).1)) H locs (F0 m 39 ls []) := by
        intro d
        induction d with
        | zero =>
          intro i x1 g1 u1 rv1 hd eS H locs ls hP hD hS hl
          refine lv_iload hx hb dX7_simulate_39 (lv_at hl 2 rfl) ?_
          refine lv_iload_n hx hb dX7_simulate_41 rfl (lv_at hl 1 rfl) ?_
          refine lv_icmp_ge (tgt := 73) hx hb dX7_simulate_42 (by decide) (fun c_42 => ?_) (fun c_42 => absurd (cl_le hn (by omega) (by have := @cl_b y; omega)) c_42)
          refine lv_sipush (v := 1000) hx hb dX7_simulate_73 (by decide) ?_
          refine lv_aload_n hx hb dX7_simulate_76 rfl (lv_at hl 0 rfl) ?_
          refine r_get (v := .ref ((ad 4) 0)) hx hb hts hown hK hP fl_X7_26 0 rfl rfl dX7_simulate_77 ?_
          refine r_getN (v := .int (g1 3)) hE hx hb hts hown hK hP fn_X7_233 1 (sk_get (m := 1) (n := 0) rfl rfl) rfl dX7_simulate_80 ?_
          refine lv_aload_n hx hb dX7_simulate_83 rfl (lv_at hl 0 rfl) ?_
          refine r_get (v := .ref ((ad 3) 0)) hx hb hts hown hK hP fl_X7_23 0 rfl rfl dX7_simulate_84 ?_
          refine r_getN (v := .int (g 3)) hE hx hb hts hown hK hP fn_X7_233 10 (sk_get (m := 1) (n := 9) (sk_get (m := 9) (n := 0) rfl st_len) rfl) rfl dX7_simulate_87 ?_
          refine lv_isub hx hb dX7_simulate_90 ?_
          refine lv_imul hx hb dX7_simulate_91 ?_
          refine lv_aload_n hx hb dX7_simulate_92 rfl (lv_at hl 0 rfl) ?_
          refine r_get (v := .ref ((ad 4) 0)) hx hb hts hown hK hP fl_X7_26 0 rfl rfl dX7_simulate_93 ?_
          refine r_getN (v := .int (g1 6)) hE hx hb hts hown hK hP fn_X7_236 1 (sk_get (m := 1) (n := 0) rfl rfl) rfl dX7_simulate_96 ?_
          refine lv_aload_n hx hb dX7_simulate_99 rfl (lv_at hl 0 rfl) ?_
          refine r_get (v := .ref ((ad 3) 0)) hx hb hts hown hK hP fl_X7_23 0 rfl rfl dX7_simulate_100 ?_
          refine r_getN (v := .int (g 6)) hE hx hb hts hown hK hP fn_X7_236 10 (sk_get (m := 1) (n := 9) (sk_get (m := 9) (n := 0) rfl st_len) rfl) rfl dX7_simulate_103 ?_
          refine lv_isub hx hb dX7_simulate_106 ?_
          refine lv_iadd hx hb dX7_simulate_107 ?_
          exact fin_ix hx hb hr hlocks hK (vP_eq (congrArg (fun z : Int32 × Int32 × (Nat → Int32) × (Nat → Int32) × (Nat → Nat → Int32) => ([(h, .inr (7, mrG ad))] ++ (stW kk (ad 4) z.2.2.1 z.2.2.2.1 z.2.2.2.2 ++ (stW kk (ad 3) g u rv)) : va_W)) eS.symm) hP) (vD_eq (congrArg (fun z : Int32 × Int32 × (Nat → Int32) × (Nat → Int32) × (Nat → Nat → Int32) => ([(h, .inr (7, mrG ad))] ++ (stW kk (ad 4) z.2.2.1 z.2.2.2.1 z.2.2.2.2 ++ (stW kk (ad 3) g u rv)) : va_W)) eS.symm) hD) hS (congrArg (fun z : Int32 × Int32 × (Nat → Int32) × (Nat → Int32) × (Nat → Nat → Int32) => z.2.1) eS) (congrArg (fun z : Int32 × Int32 × (Nat → Int32) × (Nat → Int32) × (Nat → Nat → Int32) => z.1) eS) dX7_simulate_108
        | succ d ih =>
          intro i x1 g1 u1 rv1 hd eS H locs ls hP hD hS hl
          refine lv_iload hx hb dX7_simulate_39 (lv_at hl 2 rfl) ?_
          refine lv_iload_n hx hb dX7_simulate_41 rfl (lv_at hl 1 rfl) ?_
          refine lv_icmp_ge (tgt := 73) hx hb dX7_simulate_42 (by decide) (fun c_42 => absurd c_42 (cl_gt hn (by omega) cl_b)) (fun c_42 => ?_)
          refine lv_lload hx hb dX7_simulate_45 (lv_at hl 3 rfl) ?_
          refine lv_ldc2 (v := 6364136223846793005) hx hb hown (hts _ kl_X7_278) dX7_simulate_47 ?_
          refine lv_lmul hx hb dX7_simulate_50 ?_
          refine lv_ldc2 (v := 1442695040888963407) hx hb hown (hts _ kl_X7_280) dX7_simulate_51 ?_
          refine lv_ladd hx hb dX7_simulate_54 ?_
          refine top_eqV (y := .long (lc x1)) (congrArg Value.long (hlc x1)) ?_
          refine lv_lstore (lv' := [(4, .long (lc x1)), (0, .ref h), (3, .int y), (6, .int (nI i))]) hx hb dX7_simulate_55 hl (by decide) rfl (fun ls hl => ?_)
          refine lv_aload_n hx hb dX7_simulate_57 rfl (lv_at hl 1 rfl) ?_
          refine lv_lload hx hb dX7_simulate_58 (lv_at hl 0 rfl) ?_
          refine lv_bipush (v := 33) hx hb dX7_simulate_60 (by decide) ?_
          refine lv_lushr (v := (((lc x1).toUInt64 >>> ((33 : Int32).toInt64.toUInt64 &&& Int64.toUInt64 63)).toInt64)) hx hb dX7_simulate_62 rfl ?_
          refine lv_l2i (v := ((((lc x1).toUInt64 >>> ((33 : Int32).toInt64.toUInt64 &&& Int64.toUInt64 63)).toInt64).toInt32)) hx hb dX7_simulate_63 rfl ?_
          refine top_eq (y := (hi (lc x1))) (hhi _) ?_
          refine k_goV (k_runV (rest := []) (As := [.int (hi (lc x1))]) hx hb hml hown hts hK hP hD hS hA hE hl.1 (c_X7_doTurn l G kk h ad g1 u1 rv1 (hi (lc x1)) ) vl_X7_282 rfl rfl rfl ⟨Nat.le_of_ble_eq_true rfl, Nat.le_of_ble_eq_true rfl, rfl, rfl⟩ ([0] ++ (List.range' 1 9)) (by decide +kernel) (mp_b (mp_c rfl mp_nil) (skip_map (m := 1) (n := 0) (sg_C st_len) rfl)) ⟨Nat.zero_le _, Nat.zero_le _⟩ rfl (Nat.le_of_ble_eq_true rfl) dX7_simulate_64) hP hD hS hA ([0] ++ (List.range' 1 9)) (mp_b (mp_c rfl mp_nil) (skip_map (m := 1) (n := 0) (sg_C st_len) rfl)) (ads_app ads1 st_ads) (fun H locs hP hD hS => ?_)
          replace hP : va_P G vwCl ([(h, .inr (7, mrG ad))] ++ (stW kk (ad 4) ((sX7_doTurn g1 u1 rv1 (hi (lc x1))).1) ((sX7_doTurn g1 u1 rv1 (hi (lc x1))).2.1) ((sX7_doTurn g1 u1 rv1 (hi (lc x1))).2.2) ++ (stW kk (ad 3) g u rv))) H := vP_eq2 hP (sm_b (ws1 := [(h, .inr (7, mrG ad))] ++ (stW kk (ad 4) g1 u1 rv1 ++ (stW kk (ad 3) g u rv))) (sm_c (ws1 := [(h, .inr (7, mrG ad))] ++ (stW kk (ad 4) g1 u1 rv1 ++ (stW kk (ad 3) g u rv))) (by exact rfl) rfl) rfl (skip_set (m := 1) (n := 0) (sg_S st_len st_len) rfl))
          replace hD : va_D A ([(h, .inr (7, mrG ad))] ++ (stW kk (ad 4) ((sX7_doTurn g1 u1 rv1 (hi (lc x1))).1) ((sX7_doTurn g1 u1 rv1 (hi (lc x1))).2.1) ((sX7_doTurn g1 u1 rv1 (hi (lc x1))).2.2) ++ (stW kk (ad 3) g u rv))) := vD_eq2 hD (sm_b (ws1 := [(h, .inr (7, mrG ad))] ++ (stW kk (ad 4) g1 u1 rv1 ++ (stW kk (ad 3) g u rv))) (sm_c (ws1 := [(h, .inr (7, mrG ad))] ++ (stW kk (ad 4) g1 u1 rv1 ++ (stW kk (ad 3) g u rv))) (by exact rfl) rfl) rfl (skip_set (m := 1) (n := 0) (sg_S st_len st_len) rfl))
          have eS : sX7_simulate g4 u4 rv4 g u rv sd y lc hi = (fun (z_2 : (Nat → Int32) × (Nat → Int32) × (Nat → Nat → Int32)) => (lp_X7_simulate_39 g4 u4 rv4 g u rv sd y lc hi z_1 d (i + 1) (lc x1) z_2.1 z_2.2.1 z_2.2.2)) (sX7_doTurn g1 u1 rv1 (hi (lc x1))) := eS
          generalize sX7_doTurn g1 u1 rv1 (hi (lc x1)) = z_2 at hP hD eS ⊢
          refine lv_iinc (v := (nI (i + 1))) (lv' := [(6, .int (nI (i + 1))), (4, .long (lc x1)), (0, .ref h), (3, .int y)]) hx hb dX7_simulate_67 hl (k := 3) rfl (nI_add i 1) (by decide) rfl (fun ls hl => ?_)
          refine lv_goto (tgt := 39) hx hb dX7_simulate_70 (by decide) ?_
          exact ih (i + 1) (lc x1) z_2.1 z_2.2.1 z_2.2.2 (by omega) eS _ _ ls hP hD hS (lv_sub hl [2, 3, 0, 1] rfl)
      exact L_3 y.toNatClampNeg 0 sd z_1.1 z_1.2.1 z_1.2.2 (Nat.zero_add _) eS _ _ ls hP hD hS (lv_sub hl [2, 4, 0, 1] rfl)
    · have eS := eS.trans (if_neg c_8)
      exact fin_xw (k := 1) hst hx hb hown hts hlocks hE hK (vP_eq (congrArg (fun z : Int32 × Int32 × (Nat → Int32) × (Nat → Int32) × (Nat → Nat → Int32) => ([(h, .inr (7, mrG ad))] ++ (stW kk (ad 4) z.2.2.1 z.2.2.2.1 z.2.2.2.2 ++ (stW kk (ad 3) g u rv)) : va_W)) eS.symm) hP) (vD_eq (congrArg (fun z : Int32 × Int32 × (Nat → Int32) × (Nat → Int32) × (Nat → Nat → Int32) => ([(h, .inr (7, mrG ad))] ++ (stW kk (ad 4) z.2.2.1 z.2.2.2.1 z.2.2.2.2 ++ (stW kk (ad 3) g u rv)) : va_W)) eS.symm) hD) hS hl.1 hml hxt tw_1 st_276 ⟨rfl, by decide⟩ (congrArg (fun z : Int32 × Int32 × (Nat → Int32) × (Nat → Int32) × (Nat → Nat → Int32) => z.1) eS) (Nat.le_of_ble_eq_true rfl) (Nat.le_of_ble_eq_true rfl) (Nat.le_refl _) (Nat.le_refl _) dX7_simulate_11 dX7_simulate_14 dX7_simulate_15 dX7_simulate_18 dX7_simulate_21
