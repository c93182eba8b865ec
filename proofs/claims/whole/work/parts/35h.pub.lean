theorem md_z (g u : Nat → Int32) (rv : Nat → Nat → Int32) (i o : Int32) : zb (sX5_moveDoor g u rv i o).1 := by
  unfold sX5_moveDoor
  cases sX5_roomAt g u rv i with
  | none => exact zb_0
  | some k => exact zb_1
theorem cs_z (g u : Nat → Int32) (rv : Nat → Nat → Int32) (w v : Int32) : zb (sX5_changeSetting g u rv w v).1 := by
  unfold sX5_changeSetting
  by_cases h : sX3_isAllowed w v = 0
  · rw [if_pos h]; exact zb_0
  · rw [if_neg h]; exact zb_1
theorem pm_z0 {g u : Nat → Int32} {rv : Nat → Nat → Int32} {n : Int32} : ∀ (d i : Nat) (g1 : Nat → Int32) (rv1 : Nat → Nat → Int32), (lp_X5_passMinutes_11 g u rv n d i g1 rv1).1 = 1
  | 0, _, _, _ => rfl
  | d + 1, i, g1, rv1 => pm_z0 d (i + 1) _ _
theorem pm_z (g u : Nat → Int32) (rv : Nat → Nat → Int32) (n : Int32) : zb (sX5_passMinutes g u rv n).1 := by
  unfold sX5_passMinutes
  by_cases h : sX5_canPass n = 0
  · rw [if_pos h]; exact zb_0
  · rw [if_neg h]; exact Or.inr (pm_z0 _ _ _ _)
def sX7_doCommand_z_5 (q : Nat → Int32) (g : Nat → Int32) (u : Nat → Int32) (rv : Nat → Nat → Int32) (z_5 : Int32 × (Nat → Int32)) : Int32 × (Nat → Int32) × (Nat → Int32) × (Nat → Nat → Int32) :=
  (z_5.1, g, z_5.2, rv)
def sX7_doCommand_z_4 (q : Nat → Int32) (g : Nat → Int32) (u : Nat → Int32) (rv : Nat → Nat → Int32) (z_4 : Int32 × (Nat → Nat → Int32)) : Int32 × (Nat → Int32) × (Nat → Int32) × (Nat → Nat → Int32) :=
  (z_4.1, g, u, z_4.2)
def sX7_doCommand_z_3 (q : Nat → Int32) (g : Nat → Int32) (u : Nat → Int32) (rv : Nat → Nat → Int32) (z_3 : Int32 × (Nat → Nat → Int32)) : Int32 × (Nat → Int32) × (Nat → Int32) × (Nat → Nat → Int32) :=
  (if z_3.1 = (-1) then (0, g, u, z_3.2) else (1, g, u, z_3.2))
def sX7_doCommand_z_2 (q : Nat → Int32) (g : Nat → Int32) (u : Nat → Int32) (rv : Nat → Nat → Int32) (z_2 : Int32 × (Nat → Nat → Int32)) : Int32 × (Nat → Int32) × (Nat → Int32) × (Nat → Nat → Int32) :=
  (z_2.1, g, u, z_2.2)
def sX7_doCommand_z_1 (q : Nat → Int32) (g : Nat → Int32) (u : Nat → Int32) (rv : Nat → Nat → Int32) (z_1 : Int32 × (Nat → Int32) × (Nat → Nat → Int32)) : Int32 × (Nat → Int32) × (Nat → Int32) × (Nat → Nat → Int32) :=
  (z_1.1, z_1.2.1, u, z_1.2.2)
def sX7_doCommand (q : Nat → Int32) (g : Nat → Int32) (u : Nat → Int32) (rv : Nat → Nat → Int32) : Int32 × (Nat → Int32) × (Nat → Int32) × (Nat → Nat → Int32) :=
  (if (q 3) = 109 then (sX7_doCommand_z_1 q g u rv (sX5_passMinutes g u rv (q 4))) else (if (q 3) = 111 then (sX7_doCommand_z_2 q g u rv (sX5_moveDoor g u rv (q 4) 1)) else (if (q 3) = 114 then (sX7_doCommand_z_3 q g u rv (sX5_takeRoom g u rv (q 4) (q 5) (q 6))) else (if (q 3) = 122 then (sX7_doCommand_z_4 q g u rv (sX5_moveDoor g u rv (q 4) 0)) else (sX7_doCommand_z_5 q g u rv (sX5_changeSetting g u rv 0 (q 4)))))))
set_option maxRecDepth 100000 in
set_option maxHeartbeats 4000000 in
theorem c_X7_doCommand (l : Launch) (G : va_G) (kk : Nat → ClassId) (h : Nat) (ad : Nat → Nat → Nat) (t : Nat) (q : Nat → Int32) (g : Nat → Int32) (u : Nat → Int32) (rv : Nat → Nat → Int32)  : CC l yX7_doCommand cX7_doCommand 1 (some .boolean) (rmO 5 120) [.ref h] G kk ([(h, .inr (7, mrG ad)), (((ad 1) 0), .inr (1, rdF t q))] ++ (stW kk (ad 3) g u rv)) (QI G kk ([(h, .inr (7, mrG ad)), (((ad 1) 0), .inr (1, rdF t q))] ++ (stW kk (ad 3) ((sX7_doCommand q g u rv).2.1) ((sX7_doCommand q g u rv).2.2.1) ((sX7_doCommand q g u rv).2.2.2))) ((sX7_doCommand q g u rv).1)) := by
  refine cc_start (by decide +kernel) (Nat.le_of_ble_eq_true rfl) ?_
  intro p e s m below meth c A ls hx hb hr hml hown hts hlocks hA hE hK hP hD hS hl
  have hown : s.vm.findClass RX7 = some m.cls := hown
  have hl : lv_has ls 1 [(0, .ref h)] := hl
  have eS : sX7_doCommand q g u rv = sX7_doCommand q g u rv := rfl
  refine lv_aload_n hx hb dX7_doCommand_0 rfl (lv_at hl 0 rfl) ?_
  refine r_get (v := .ref ((ad 1) 0)) hx hb hts hown hK hP fl_X7_10 0 rfl rfl dX7_doCommand_1 ?_
  refine r_getN (v := .int (q 3)) hE hx hb hts hown hK hP fn_X7_99 1 rfl rfl dX7_doCommand_4 ?_
  refine (Decidable.em ((q 3) = 109)).elim (fun c_7_0 => ?_) (fun c_7_0 => ?_)
  · have eS := eS.trans (if_pos c_7_0)
    refine lv_lookup (off := 111) (tgt := 118) hx hb dX7_doCommand_7 (by decide) (by rw [c_7_0]; first | done | rfl) (by decide) ?_
    refine lv_aload_n hx hb dX7_doCommand_118 rfl (lv_at hl 0 rfl) ?_
    refine r_get (v := .ref ((ad 3) 0)) hx hb hts hown hK hP fl_X7_23 0 rfl rfl dX7_doCommand_119 ?_
    refine lv_aload_n hx hb dX7_doCommand_122 rfl (lv_at hl 0 rfl) ?_
    refine r_get (v := .ref ((ad 1) 0)) hx hb hts hown hK hP fl_X7_10 0 rfl rfl dX7_doCommand_123 ?_
    refine r_getN (v := .int (q 4)) hE hx hb hts hown hK hP fn_X7_103 1 rfl rfl dX7_doCommand_126 ?_
    refine k_goI (k_runV (rest := []) (As := [.int (q 4)]) hx hb hml hown hts hK hP hD hS hA hE hl.1 (c_X5_passMinutes l G kk (ad 3) g u rv (q 4) ) vl_X7_120 rfl rfl rfl ⟨Nat.le_of_ble_eq_true rfl, Nat.le_of_ble_eq_true rfl, rfl, rfl⟩ (List.range' 2 9) (by decide +kernel) (skip_map (m := 2) (n := 0) (sg_Ce st_len) rfl) ⟨Nat.zero_le _, Nat.zero_le _⟩ rfl (Nat.le_of_ble_eq_true rfl) dX7_doCommand_129) hP hD hS hA (List.range' 2 9) (skip_map (m := 2) (n := 0) (sg_Ce st_len) rfl) st_ads (fun H locs hP hD hS => ?_)
    replace hP : va_P G vwCl ([(h, .inr (7, mrG ad)), (((ad 1) 0), .inr (1, rdF t q))] ++ (stW kk (ad 3) ((sX5_passMinutes g u rv (q 4)).2.1) u ((sX5_passMinutes g u rv (q 4)).2.2))) H := vP_eq2 hP (skip_set (m := 2) (n := 0) (sg_Se st_len st_len) rfl)
    replace hD : va_D A ([(h, .inr (7, mrG ad)), (((ad 1) 0), .inr (1, rdF t q))] ++ (stW kk (ad 3) ((sX5_passMinutes g u rv (q 4)).2.1) u ((sX5_passMinutes g u rv (q 4)).2.2))) := vD_eq2 hD (skip_set (m := 2) (n := 0) (sg_Se st_len st_len) rfl)
    have eS : sX7_doCommand q g u rv = sX7_doCommand_z_1 q g u rv (sX5_passMinutes g u rv (q 4)) := eS
    have hz_1 := pm_z g u rv (q 4)
    generalize sX5_passMinutes g u rv (q 4) = z_1 at hP hD eS hz_1 ⊢
    exact fin_z hx hb hr hlocks hK (vP_eq (congrArg (fun z : Int32 × (Nat → Int32) × (Nat → Int32) × (Nat → Nat → Int32) => ([(h, .inr (7, mrG ad)), (((ad 1) 0), .inr (1, rdF t q))] ++ (stW kk (ad 3) z.2.1 z.2.2.1 z.2.2.2) : va_W)) eS.symm) hP) (vD_eq (congrArg (fun z : Int32 × (Nat → Int32) × (Nat → Int32) × (Nat → Nat → Int32) => ([(h, .inr (7, mrG ad)), (((ad 1) 0), .inr (1, rdF t q))] ++ (stW kk (ad 3) z.2.1 z.2.2.1 z.2.2.2) : va_W)) eS.symm) hD) hS ((congrArg (fun z : Int32 × (Nat → Int32) × (Nat → Int32) × (Nat → Nat → Int32) => z.1) eS).trans rfl) (zb_n hz_1) dX7_doCommand_132
  have eS := eS.trans (if_neg c_7_0)
  refine (Decidable.em ((q 3) = 111)).elim (fun c_7_1 => ?_) (fun c_7_1 => ?_)
  · have eS := eS.trans (if_pos c_7_1)
    refine lv_lookup (off := 79) (tgt := 86) hx hb dX7_doCommand_7 (by decide) (by rw [c_7_1]; first | done | rfl) (by decide) ?_
    refine lv_aload_n hx hb dX7_doCommand_86 rfl (lv_at hl 0 rfl) ?_
    refine r_get (v := .ref ((ad 3) 0)) hx hb hts hown hK hP fl_X7_23 0 rfl rfl dX7_doCommand_87 ?_
    refine lv_aload_n hx hb dX7_doCommand_90 rfl (lv_at hl 0 rfl) ?_
    refine r_get (v := .ref ((ad 1) 0)) hx hb hts hown hK hP fl_X7_10 0 rfl rfl dX7_doCommand_91 ?_
    refine r_getN (v := .int (q 4)) hE hx hb hts hown hK hP fn_X7_103 1 rfl rfl dX7_doCommand_94 ?_
    refine lv_iconst (v := 1) hx hb dX7_doCommand_97 (by decide) ?_
    refine k_goI (k_runV (rest := []) (As := [.int (q 4), .int 1]) hx hb hml hown hts hK hP hD hS hA hE hl.1 (c_X5_moveDoor l G kk (ad 3) g u rv (q 4) 1 (by first | exact zb_0 | exact zb_1)) vl_X7_116 rfl rfl rfl ⟨Nat.le_of_ble_eq_true rfl, Nat.le_of_ble_eq_true rfl, rfl, rfl⟩ (List.range' 2 9) (by decide +kernel) (skip_map (m := 2) (n := 0) (sg_Ce st_len) rfl) ⟨Nat.zero_le _, Nat.zero_le _⟩ rfl (Nat.le_of_ble_eq_true rfl) dX7_doCommand_98) hP hD hS hA (List.range' 2 9) (skip_map (m := 2) (n := 0) (sg_Ce st_len) rfl) st_ads (fun H locs hP hD hS => ?_)
    replace hP : va_P G vwCl ([(h, .inr (7, mrG ad)), (((ad 1) 0), .inr (1, rdF t q))] ++ (stW kk (ad 3) g u ((sX5_moveDoor g u rv (q 4) 1).2))) H := vP_eq2 hP (skip_set (m := 2) (n := 0) (sg_Se st_len st_len) rfl)
    replace hD : va_D A ([(h, .inr (7, mrG ad)), (((ad 1) 0), .inr (1, rdF t q))] ++ (stW kk (ad 3) g u ((sX5_moveDoor g u rv (q 4) 1).2))) := vD_eq2 hD (skip_set (m := 2) (n := 0) (sg_Se st_len st_len) rfl)
    have eS : sX7_doCommand q g u rv = sX7_doCommand_z_2 q g u rv (sX5_moveDoor g u rv (q 4) 1) := eS
    have hz_2 := md_z g u rv (q 4) 1
    generalize sX5_moveDoor g u rv (q 4) 1 = z_2 at hP hD eS hz_2 ⊢
    exact fin_z hx hb hr hlocks hK (vP_eq (congrArg (fun z : Int32 × (Nat → Int32) × (Nat → Int32) × (Nat → Nat → Int32) => ([(h, .inr (7, mrG ad)), (((ad 1) 0), .inr (1, rdF t q))] ++ (stW kk (ad 3) z.2.1 z.2.2.1 z.2.2.2) : va_W)) eS.symm) hP) (vD_eq (congrArg (fun z : Int32 × (Nat → Int32) × (Nat → Int32) × (Nat → Nat → Int32) => ([(h, .inr (7, mrG ad)), (((ad 1) 0), .inr (1, rdF t q))] ++ (stW kk (ad 3) z.2.1 z.2.2.1 z.2.2.2) : va_W)) eS.symm) hD) hS ((congrArg (fun z : Int32 × (Nat → Int32) × (Nat → Int32) × (Nat → Nat → Int32) => z.1) eS).trans rfl) (zb_n hz_2) dX7_doCommand_101
  have eS := eS.trans (if_neg c_7_1)
  refine (Decidable.em ((q 3) = 114)).elim (fun c_7_2 => ?_) (fun c_7_2 => ?_)
  · have eS := eS.trans (if_pos c_7_2)
    refine lv_lookup (off := 41) (tgt := 48) hx hb dX7_doCommand_7 (by decide) (by rw [c_7_2]; first | done | rfl) (by decide) ?_
    refine lv_aload_n hx hb dX7_doCommand_48 rfl (lv_at hl 0 rfl) ?_
    refine r_get (v := .ref ((ad 3) 0)) hx hb hts hown hK hP fl_X7_23 0 rfl rfl dX7_doCommand_49 ?_
    refine lv_aload_n hx hb dX7_doCommand_52 rfl (lv_at hl 0 rfl) ?_
    refine r_get (v := .ref ((ad 1) 0)) hx hb hts hown hK hP fl_X7_10 0 rfl rfl dX7_doCommand_53 ?_
    refine r_getN (v := .int (q 4)) hE hx hb hts hown hK hP fn_X7_103 1 rfl rfl dX7_doCommand_56 ?_
    refine lv_aload_n hx hb dX7_doCommand_59 rfl (lv_at hl 0 rfl) ?_
    refine r_get (v := .ref ((ad 1) 0)) hx hb hts hown hK hP fl_X7_10 0 rfl rfl dX7_doCommand_60 ?_
    refine r_getN (v := .int (q 5)) hE hx hb hts hown hK hP fn_X7_106 1 rfl rfl dX7_doCommand_63 ?_
    refine lv_aload_n hx hb dX7_doCommand_66 rfl (lv_at hl 0 rfl) ?_
    refine r_get (v := .ref ((ad 1) 0)) hx hb hts hown hK hP fl_X7_10 0 rfl rfl dX7_doCommand_67 ?_
    refine r_getN (v := .int (q 6)) hE hx hb hts hown hK hP fn_X7_109 1 rfl rfl dX7_doCommand_70 ?_
    refine k_goI (k_runV (rest := []) (As := [.int (q 4), .int (q 5), .int (q 6)]) hx hb hml hown hts hK hP hD hS hA hE hl.1 (c_X5_takeRoom l G kk (ad 3) g u rv (q 4) (q 5) (q 6) ) vl_X7_112 rfl rfl rfl ⟨Nat.le_of_ble_eq_true rfl, Nat.le_of_ble_eq_true rfl, rfl, rfl⟩ (List.range' 2 9) (by decide +kernel) (skip_map (m := 2) (n := 0) (sg_Ce st_len) rfl) ⟨Nat.zero_le _, Nat.zero_le _⟩ rfl (Nat.le_of_ble_eq_true rfl) dX7_doCommand_73) hP hD hS hA (List.range' 2 9) (skip_map (m := 2) (n := 0) (sg_Ce st_len) rfl) st_ads (fun H locs hP hD hS => ?_)
    replace hP : va_P G vwCl ([(h, .inr (7, mrG ad)), (((ad 1) 0), .inr (1, rdF t q))] ++ (stW kk (ad 3) g u ((sX5_takeRoom g u rv (q 4) (q 5) (q 6)).2))) H := vP_eq2 hP (skip_set (m := 2) (n := 0) (sg_Se st_len st_len) rfl)
    replace hD : va_D A ([(h, .inr (7, mrG ad)), (((ad 1) 0), .inr (1, rdF t q))] ++ (stW kk (ad 3) g u ((sX5_takeRoom g u rv (q 4) (q 5) (q 6)).2))) := vD_eq2 hD (skip_set (m := 2) (n := 0) (sg_Se st_len st_len) rfl)
    have eS : sX7_doCommand q g u rv = sX7_doCommand_z_3 q g u rv (sX5_takeRoom g u rv (q 4) (q 5) (q 6)) := eS
    generalize sX5_takeRoom g u rv (q 4) (q 5) (q 6) = z_3 at hP hD eS ⊢
    refine lv_iconst (v := (-1)) hx hb dX7_doCommand_76 (by decide) ?_
    refine lv_icmp_eq (tgt := 84) hx hb dX7_doCommand_77 (by decide) (fun c_77 => ?_) (fun c_77 => ?_)
    · have eS := eS.trans (if_pos c_77)
      refine lv_iconst (v := 0) hx hb dX7_doCommand_84 (by decide) ?_
      exact fin_z hx hb hr hlocks hK (vP_eq (congrArg (fun z : Int32 × (Nat → Int32) × (Nat → Int32) × (Nat → Nat → Int32) => ([(h, .inr (7, mrG ad)), (((ad 1) 0), .inr (1, rdF t q))] ++ (stW kk (ad 3) z.2.1 z.2.2.1 z.2.2.2) : va_W)) eS.symm) hP) (vD_eq (congrArg (fun z : Int32 × (Nat → Int32) × (Nat → Int32) × (Nat → Nat → Int32) => ([(h, .inr (7, mrG ad)), (((ad 1) 0), .inr (1, rdF t q))] ++ (stW kk (ad 3) z.2.1 z.2.2.1 z.2.2.2) : va_W)) eS.symm) hD) hS (congrArg (fun z : Int32 × (Nat → Int32) × (Nat → Int32) × (Nat → Nat → Int32) => z.1) eS) rfl dX7_doCommand_85
    · have eS := eS.trans (if_neg c_77)
      refine lv_iconst (v := 1) hx hb dX7_doCommand_80 (by decide) ?_
      refine lv_goto (tgt := 85) hx hb dX7_doCommand_81 (by decide) ?_
      exact fin_z hx hb hr hlocks hK (vP_eq (congrArg (fun z : Int32 × (Nat → Int32) × (Nat → Int32) × (Nat → Nat → Int32) => ([(h, .inr (7, mrG ad)), (((ad 1) 0), .inr (1, rdF t q))] ++ (stW kk (ad 3) z.2.1 z.2.2.1 z.2.2.2) : va_W)) eS.symm) hP) (vD_eq (congrArg (fun z : Int32 × (Nat → Int32) × (Nat → Int32) × (Nat → Nat → Int32) => ([(h, .inr (7, mrG ad)), (((ad 1) 0), .inr (1, rdF t q))] ++ (stW kk (ad 3) z.2.1 z.2.2.1 z.2.2.2) : va_W)) eS.symm) hD) hS (congrArg (fun z : Int32 × (Nat → Int32) × (Nat → Int32) × (Nat → Nat → Int32) => z.1) eS) rfl dX7_doCommand_85
  have eS := eS.trans (if_neg c_7_2)
  refine (Decidable.em ((q 3) = 122)).elim (fun c_7_3 => ?_) (fun c_7_3 => ?_)
  · have eS := eS.trans (if_pos c_7_3)
    refine lv_lookup (off := 95) (tgt := 102) hx hb dX7_doCommand_7 (by decide) (by rw [c_7_3]; first | done | rfl) (by decide) ?_
    refine lv_aload_n hx hb dX7_doCommand_102 rfl (lv_at hl 0 rfl) ?_
    refine r_get (v := .ref ((ad 3) 0)) hx hb hts hown hK hP fl_X7_23 0 rfl rfl dX7_doCommand_103 ?_
    refine lv_aload_n hx hb dX7_doCommand_106 rfl (lv_at hl 0 rfl) ?_
    refine r_get (v := .ref ((ad 1) 0)) hx hb hts hown hK hP fl_X7_10 0 rfl rfl dX7_doCommand_107 ?_
    refine r_getN (v := .int (q 4)) hE hx hb hts hown hK hP fn_X7_103 1 rfl rfl dX7_doCommand_110 ?_
    refine lv_iconst (v := 0) hx hb dX7_doCommand_113 (by decide) ?_
    refine k_goI (k_runV (rest := []) (As := [.int (q 4), .int 0]) hx hb hml hown hts hK hP hD hS hA hE hl.1 (c_X5_moveDoor l G kk (ad 3) g u rv (q 4) 0 (by first | exact zb_0 | exact zb_1)) vl_X7_116 rfl rfl rfl ⟨Nat.le_of_ble_eq_true rfl, Nat.le_of_ble_eq_true rfl, rfl, rfl⟩ (List.range' 2 9) (by decide +kernel) (skip_map (m := 2) (n := 0) (sg_Ce st_len) rfl) ⟨Nat.zero_le _, Nat.zero_le _⟩ rfl (Nat.le_of_ble_eq_true rfl) dX7_doCommand_114) hP hD hS hA (List.range' 2 9) (skip_map (m := 2) (n := 0) (sg_Ce st_len) rfl) st_ads (fun H locs hP hD hS => ?_)
    replace hP : va_P G vwCl ([(h, .inr (7, mrG ad)), (((ad 1) 0), .inr (1, rdF t q))] ++ (stW kk (ad 3) g u ((sX5_moveDoor g u rv (q 4) 0).2))) H := vP_eq2 hP (skip_set (m := 2) (n := 0) (sg_Se st_len st_len) rfl)
    replace hD : va_D A ([(h, .inr (7, mrG ad)), (((ad 1) 0), .inr (1, rdF t q))] ++ (stW kk (ad 3) g u ((sX5_moveDoor g u rv (q 4) 0).2))) := vD_eq2 hD (skip_set (m := 2) (n := 0) (sg_Se st_len st_len) rfl)
    have eS : sX7_doCommand q g u rv = sX7_doCommand_z_4 q g u rv (sX5_moveDoor g u rv (q 4) 0) := eS
    have hz_4 := md_z g u rv (q 4) 0
    generalize sX5_moveDoor g u rv (q 4) 0 = z_4 at hP hD eS hz_4 ⊢
    exact fin_z hx hb hr hlocks hK (vP_eq (congrArg (fun z : Int32 × (Nat → Int32) × (Nat → Int32) × (Nat → Nat → Int32) => ([(h, .inr (7, mrG ad)), (((ad 1) 0), .inr (1, rdF t q))] ++ (stW kk (ad 3) z.2.1 z.2.2.1 z.2.2.2) : va_W)) eS.symm) hP) (vD_eq (congrArg (fun z : Int32 × (Nat → Int32) × (Nat → Int32) × (Nat → Nat → Int32) => ([(h, .inr (7, mrG ad)), (((ad 1) 0), .inr (1, rdF t q))] ++ (stW kk (ad 3) z.2.1 z.2.2.1 z.2.2.2) : va_W)) eS.symm) hD) hS ((congrArg (fun z : Int32 × (Nat → Int32) × (Nat → Int32) × (Nat → Nat → Int32) => z.1) eS).trans rfl) (zb_n hz_4) dX7_doCommand_117
  have eS := eS.trans (if_neg c_7_3)
  refine lv_lookup (off := 126) (tgt := 133) hx hb dX7_doCommand_7 (by decide) (((lv_osw c_7_0 (by decide)).trans ((lv_osw c_7_1 (by decide)).trans ((lv_osw c_7_2 (by decide)).trans ((lv_osw c_7_3 (by decide)).trans rfl))))) (by decide) ?_
  refine lv_aload_n hx hb dX7_doCommand_133 rfl (lv_at hl 0 rfl) ?_
  refine r_get (v := .ref ((ad 3) 0)) hx hb hts hown hK hP fl_X7_23 0 rfl rfl dX7_doCommand_134 ?_
  refine lv_iconst (v := 0) hx hb dX7_doCommand_137 (by decide) ?_
  refine lv_aload_n hx hb dX7_doCommand_138 rfl (lv_at hl 0 rfl) ?_
  refine r_get (v := .ref ((ad 1) 0)) hx hb hts hown hK hP fl_X7_10 0 rfl rfl dX7_doCommand_139 ?_
  refine r_getN (v := .int (q 4)) hE hx hb hts hown hK hP fn_X7_103 1 rfl rfl dX7_doCommand_142 ?_
  refine k_goI (k_runV (rest := []) (As := [.int 0, .int (q 4)]) hx hb hml hown hts hK hP hD hS hA hE hl.1 (c_X5_changeSetting l G kk (ad 3) g u rv 0 (q 4) ) vl_X7_124 rfl rfl rfl ⟨Nat.le_of_ble_eq_true rfl, Nat.le_of_ble_eq_true rfl, rfl, rfl⟩ (List.range' 2 9) (by decide +kernel) (skip_map (m := 2) (n := 0) (sg_Ce st_len) rfl) ⟨Nat.zero_le _, Nat.zero_le _⟩ rfl (Nat.le_of_ble_eq_true rfl) dX7_doCommand_145) hP hD hS hA (List.range' 2 9) (skip_map (m := 2) (n := 0) (sg_Ce st_len) rfl) st_ads (fun H locs hP hD hS => ?_)
  replace hP : va_P G vwCl ([(h, .inr (7, mrG ad)), (((ad 1) 0), .inr (1, rdF t q))] ++ (stW kk (ad 3) g ((sX5_changeSetting g u rv 0 (q 4)).2) rv)) H := vP_eq2 hP (skip_set (m := 2) (n := 0) (sg_Se st_len st_len) rfl)
  replace hD : va_D A ([(h, .inr (7, mrG ad)), (((ad 1) 0), .inr (1, rdF t q))] ++ (stW kk (ad 3) g ((sX5_changeSetting g u rv 0 (q 4)).2) rv)) := vD_eq2 hD (skip_set (m := 2) (n := 0) (sg_Se st_len st_len) rfl)
  have eS : sX7_doCommand q g u rv = sX7_doCommand_z_5 q g u rv (sX5_changeSetting g u rv 0 (q 4)) := eS
  have hz_5 := cs_z g u rv 0 (q 4)
  generalize sX5_changeSetting g u rv 0 (q 4) = z_5 at hP hD eS hz_5 ⊢
  exact fin_z hx hb hr hlocks hK (vP_eq (congrArg (fun z : Int32 × (Nat → Int32) × (Nat → Int32) × (Nat → Nat → Int32) => ([(h, .inr (7, mrG ad)), (((ad 1) 0), .inr (1, rdF t q))] ++ (stW kk (ad 3) z.2.1 z.2.2.1 z.2.2.2) : va_W)) eS.symm) hP) (vD_eq (congrArg (fun z : Int32 × (Nat → Int32) × (Nat → Int32) × (Nat → Nat → Int32) => ([(h, .inr (7, mrG ad)), (((ad 1) 0), .inr (1, rdF t q))] ++ (stW kk (ad 3) z.2.1 z.2.2.1 z.2.2.2) : va_W)) eS.symm) hD) hS ((congrArg (fun z : Int32 × (Nat → Int32) × (Nat → Int32) × (Nat → Nat → Int32) => z.1) eS).trans rfl) (zb_n hz_5) dX7_doCommand_148
