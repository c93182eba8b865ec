def sX7_append_z_1 (q : Nat → Int32) (tq : Nat → Int32) (sg : Nat → Int32) (x : Int32) (z_1 : Int32 × (Nat → Int32) × (Nat → Int32)) : Int32 × Int32 × (Nat → Int32) × (Nat → Int32) :=
  (0, z_1.1, z_1.2.1, z_1.2.2)
def sX7_append (q : Nat → Int32) (tq : Nat → Int32) (sg : Nat → Int32) (x : Int32) : Int32 × Int32 × (Nat → Int32) × (Nat → Int32) :=
  (if x < 0 then (1, 0, tq, sg) else (if x ≤ 255 then (if (sX6_isFull tq sg) = 0 then (sX7_append_z_1 q tq sg x (sX6_lengthen tq sg x)) else (2, 0, tq, sg)) else (1, 0, tq, sg)))
set_option maxRecDepth 100000 in
set_option maxHeartbeats 4000000 in
theorem c_X7_append (l : Launch) (hst : l.stackTraces = false) (G : va_G) (kk : Nat → ClassId) (h : Nat) (ad : Nat → Nat → Nat) (t : Nat) (sa : Nat) (q : Nat → Int32) (tq : Nat → Int32) (sg : Nat → Int32) (x : Int32)  : CX l yX7_append cX7_append 2 (some .int) (rmX 6 82) [.ref h, .int x] G kk ([(h, .inr (7, mrG ad)), (((ad 1) 0), .inr (1, rdF t q)), (t, .inr (6, txF sa tq)), (sa, .inl (kk 1, 120, .inl sg))]) (QIX G kk ([(h, .inr (7, mrG ad)), (((ad 1) 0), .inr (1, rdF t q)), (t, .inr (6, txF sa ((sX7_append q tq sg x).2.2.1))), (sa, .inl (kk 1, 120, .inl ((sX7_append q tq sg x).2.2.2)))]) ((sX7_append q tq sg x).2.1) ((sX7_append q tq sg x).1)) (XKX G kk ([(h, .inr (7, mrG ad)), (((ad 1) 0), .inr (1, rdF t q)), (t, .inr (6, txF sa ((sX7_append q tq sg x).2.2.1))), (sa, .inl (kk 1, 120, .inl ((sX7_append q tq sg x).2.2.2)))]) [1, 2] ((sX7_append q tq sg x).1)) := by
  refine cx_start (by decide +kernel) (Nat.le_of_ble_eq_true rfl) ?_
  intro p e s m below meth c A ls hx hb hr hml hown hts hlocks hA hE hK hP hD hS hl hxt
  have hown : s.vm.findClass RX7 = some m.cls := hown
  have hl : lv_has ls 2 [(0, .ref h), (1, .int x)] := hl
  have eS : sX7_append q tq sg x = sX7_append q tq sg x := rfl
  refine lv_iload_n hx hb dX7_append_0 rfl (lv_at hl 1 rfl) ?_
  refine lv_if_lt (tgt := 11) hx hb dX7_append_1 (by decide) (fun c_1 => ?_) (fun c_1 => ?_)
  · have eS := eS.trans (if_pos c_1)
    exact fin_x (k := 1) hst hx hb hown hts hlocks hE hK (vP_eq (congrArg (fun z : Int32 × Int32 × (Nat → Int32) × (Nat → Int32) => ([(h, .inr (7, mrG ad)), (((ad 1) 0), .inr (1, rdF t q)), (t, .inr (6, txF sa z.2.2.1)), (sa, .inl (kk 1, 120, .inl z.2.2.2))] : va_W)) eS.symm) hP) (vD_eq (congrArg (fun z : Int32 × Int32 × (Nat → Int32) × (Nat → Int32) => ([(h, .inr (7, mrG ad)), (((ad 1) 0), .inr (1, rdF t q)), (t, .inr (6, txF sa z.2.2.1)), (sa, .inl (kk 1, 120, .inl z.2.2.2))] : va_W)) eS.symm) hD) hS hl.1 hml hxt tw_1 st_48 ⟨rfl, by decide⟩ (congrArg (fun z : Int32 × Int32 × (Nat → Int32) × (Nat → Int32) => z.1) eS) (Nat.le_of_ble_eq_true rfl) (Nat.le_of_ble_eq_true rfl) (Nat.le_refl _) (Nat.le_refl _) dX7_append_11 dX7_append_14 dX7_append_15 dX7_append_17 dX7_append_20
  · have eS := eS.trans (if_neg c_1)
    refine lv_iload_n hx hb dX7_append_4 rfl (lv_at hl 1 rfl) ?_
    refine lv_sipush (v := 255) hx hb dX7_append_5 (by decide) ?_
    refine lv_icmp_le (tgt := 21) hx hb dX7_append_8 (by decide) (fun c_8 => ?_) (fun c_8 => ?_)
    · have eS := eS.trans (if_pos c_8)
      refine lv_aload_n hx hb dX7_append_21 rfl (lv_at hl 0 rfl) ?_
      refine r_get (v := .ref ((ad 1) 0)) hx hb hts hown hK hP fl_X7_10 0 rfl rfl dX7_append_22 ?_
      refine r_getN (v := .ref t) hE hx hb hts hown hK hP fn_X7_53 1 rfl rfl dX7_append_25 ?_
      refine k_goI (k_runV (rest := []) (As := []) hx hb hml hown hts hK hP hD hS hA hE hl.1 (c_X6_isFull l G kk t sa tq sg ) vl_X7_57 rfl rfl rfl ⟨Nat.le_of_ble_eq_true rfl, Nat.le_of_ble_eq_true rfl, rfl, rfl⟩ ([2, 3]) (by decide +kernel) (mp_c rfl (mp_c rfl mp_nil)) ⟨Nat.zero_le _, Nat.zero_le _⟩ rfl (Nat.le_of_ble_eq_true rfl) dX7_append_28) hP hD hS hA ([2, 3]) (mp_c rfl (mp_c rfl mp_nil)) ads2 (fun H locs hP hD hS => ?_)
      replace hP : va_P G vwCl ([(h, .inr (7, mrG ad)), (((ad 1) 0), .inr (1, rdF t q)), (t, .inr (6, txF sa tq)), (sa, .inl (kk 1, 120, .inl sg))]) H := vP_eq2 hP (sm_same (mp_c rfl (mp_c rfl mp_nil)))
      replace hD : va_D A ([(h, .inr (7, mrG ad)), (((ad 1) 0), .inr (1, rdF t q)), (t, .inr (6, txF sa tq)), (sa, .inl (kk 1, 120, .inl sg))]) := vD_eq2 hD (sm_same (mp_c rfl (mp_c rfl mp_nil)))
      refine lv_if_eq (tgt := 44) hx hb dX7_append_31 (by decide) (fun c_31 => ?_) (fun c_31 => ?_)
      · have eS := eS.trans (if_pos c_31)
        refine lv_aload_n hx hb dX7_append_44 rfl (lv_at hl 0 rfl) ?_
        refine r_get (v := .ref ((ad 1) 0)) hx hb hts hown hK hP fl_X7_10 0 rfl rfl dX7_append_45 ?_
        refine r_getN (v := .ref t) hE hx hb hts hown hK hP fn_X7_53 1 rfl rfl dX7_append_48 ?_
        refine lv_iload_n hx hb dX7_append_51 rfl (lv_at hl 1 rfl) ?_
        refine k_goI (k_runV (rest := []) (As := [.int x]) hx hb hml hown hts hK hP hD hS hA hE hl.1 (c_X6_lengthen l G kk t sa tq sg x ) vl_X7_68 rfl rfl rfl ⟨Nat.le_of_ble_eq_true rfl, Nat.le_of_ble_eq_true rfl, rfl, rfl⟩ ([2, 3]) (by decide +kernel) (mp_c rfl (mp_c rfl mp_nil)) ⟨Nat.zero_le _, Nat.zero_le _⟩ rfl (Nat.le_of_ble_eq_true rfl) dX7_append_52) hP hD hS hA ([2, 3]) (mp_c rfl (mp_c rfl mp_nil)) ads2 (fun H locs hP hD hS => ?_)
        replace hP : va_P G vwCl ([(h, .inr (7, mrG ad)), (((ad 1) 0), .inr (1, rdF t q)), (t, .inr (6, txF sa ((sX6_lengthen tq sg x).2.1))), (sa, .inl (kk 1, 120, .inl ((sX6_lengthen tq sg x).2.2)))]) H := vP_eq2 hP (sm_c (ws1 := [(h, .inr (7, mrG ad)), (((ad 1) 0), .inr (1, rdF t q)), (t, .inr (6, txF sa ((sX6_lengthen tq sg x).2.1))), (sa, .inl (kk 1, 120, .inl sg))]) (by exact rfl) (sm_c (ws1 := [(h, .inr (7, mrG ad)), (((ad 1) 0), .inr (1, rdF t q)), (t, .inr (6, txF sa ((sX6_lengthen tq sg x).2.1))), (sa, .inl (kk 1, 120, .inl ((sX6_lengthen tq sg x).2.2)))]) (by exact rfl) rfl))
        replace hD : va_D A ([(h, .inr (7, mrG ad)), (((ad 1) 0), .inr (1, rdF t q)), (t, .inr (6, txF sa ((sX6_lengthen tq sg x).2.1))), (sa, .inl (kk 1, 120, .inl ((sX6_lengthen tq sg x).2.2)))]) := vD_eq2 hD (sm_c (ws1 := [(h, .inr (7, mrG ad)), (((ad 1) 0), .inr (1, rdF t q)), (t, .inr (6, txF sa ((sX6_lengthen tq sg x).2.1))), (sa, .inl (kk 1, 120, .inl sg))]) (by exact rfl) (sm_c (ws1 := [(h, .inr (7, mrG ad)), (((ad 1) 0), .inr (1, rdF t q)), (t, .inr (6, txF sa ((sX6_lengthen tq sg x).2.1))), (sa, .inl (kk 1, 120, .inl ((sX6_lengthen tq sg x).2.2)))]) (by exact rfl) rfl))
        have eS : sX7_append q tq sg x = sX7_append_z_1 q tq sg x (sX6_lengthen tq sg x) := eS
        generalize sX6_lengthen tq sg x = z_1 at hP hD eS ⊢
        exact fin_ix hx hb hr hlocks hK (vP_eq (congrArg (fun z : Int32 × Int32 × (Nat → Int32) × (Nat → Int32) => ([(h, .inr (7, mrG ad)), (((ad 1) 0), .inr (1, rdF t q)), (t, .inr (6, txF sa z.2.2.1)), (sa, .inl (kk 1, 120, .inl z.2.2.2))] : va_W)) eS.symm) hP) (vD_eq (congrArg (fun z : Int32 × Int32 × (Nat → Int32) × (Nat → Int32) => ([(h, .inr (7, mrG ad)), (((ad 1) 0), .inr (1, rdF t q)), (t, .inr (6, txF sa z.2.2.1)), (sa, .inl (kk 1, 120, .inl z.2.2.2))] : va_W)) eS.symm) hD) hS ((congrArg (fun z : Int32 × Int32 × (Nat → Int32) × (Nat → Int32) => z.2.1) eS).trans rfl) (congrArg (fun z : Int32 × Int32 × (Nat → Int32) × (Nat → Int32) => z.1) eS) dX7_append_55
      · have eS := eS.trans (if_neg c_31)
        exact fin_x (k := 2) hst hx hb hown hts hlocks hE hK (vP_eq (congrArg (fun z : Int32 × Int32 × (Nat → Int32) × (Nat → Int32) => ([(h, .inr (7, mrG ad)), (((ad 1) 0), .inr (1, rdF t q)), (t, .inr (6, txF sa z.2.2.1)), (sa, .inl (kk 1, 120, .inl z.2.2.2))] : va_W)) eS.symm) hP) (vD_eq (congrArg (fun z : Int32 × Int32 × (Nat → Int32) × (Nat → Int32) => ([(h, .inr (7, mrG ad)), (((ad 1) 0), .inr (1, rdF t q)), (t, .inr (6, txF sa z.2.2.1)), (sa, .inl (kk 1, 120, .inl z.2.2.2))] : va_W)) eS.symm) hD) hS hl.1 hml hxt tw_2 st_65 ⟨rfl, by decide⟩ (congrArg (fun z : Int32 × Int32 × (Nat → Int32) × (Nat → Int32) => z.1) eS) (Nat.le_of_ble_eq_true rfl) (Nat.le_of_ble_eq_true rfl) (Nat.le_refl _) (Nat.le_refl _) dX7_append_34 dX7_append_37 dX7_append_38 dX7_append_40 dX7_append_43
    · have eS := eS.trans (if_neg c_8)
      exact fin_x (k := 1) hst hx hb hown hts hlocks hE hK (vP_eq (congrArg (fun z : Int32 × Int32 × (Nat → Int32) × (Nat → Int32) => ([(h, .inr (7, mrG ad)), (((ad 1) 0), .inr (1, rdF t q)), (t, .inr (6, txF sa z.2.2.1)), (sa, .inl (kk 1, 120, .inl z.2.2.2))] : va_W)) eS.symm) hP) (vD_eq (congrArg (fun z : Int32 × Int32 × (Nat → Int32) × (Nat → Int32) => ([(h, .inr (7, mrG ad)), (((ad 1) 0), .inr (1, rdF t q)), (t, .inr (6, txF sa z.2.2.1)), (sa, .inl (kk 1, 120, .inl z.2.2.2))] : va_W)) eS.symm) hD) hS hl.1 hml hxt tw_1 st_48 ⟨rfl, by decide⟩ (congrArg (fun z : Int32 × Int32 × (Nat → Int32) × (Nat → Int32) => z.1) eS) (Nat.le_of_ble_eq_true rfl) (Nat.le_of_ble_eq_true rfl) (Nat.le_refl _) (Nat.le_refl _) dX7_append_11 dX7_append_14 dX7_append_15 dX7_append_17 dX7_append_20
def sX7_about (g : Nat → Int32) (u : Nat → Int32) (rv : Nat → Nat → Int32) (x : Int32) : Int32 × Int32 :=
  (if x < 0 then (1, 0) else (if x ≤ 10 then (0, (sX5_account g u rv x)) else (1, 0)))
set_option maxRecDepth 100000 in
set_option maxHeartbeats 4000000 in
theorem c_X7_about (l : Launch) (hst : l.stackTraces = false) (G : va_G) (kk : Nat → ClassId) (h : Nat) (ad : Nat → Nat → Nat) (g : Nat → Int32) (u : Nat → Int32) (rv : Nat → Nat → Int32) (x : Int32)  : CX l yX7_about cX7_about 2 (some .int) (rmX 6 86) [.ref h, .int x] G kk ([(h, .inr (7, mrG ad))] ++ (stW kk (ad 3) g u rv)) (QIX G kk ([(h, .inr (7, mrG ad))] ++ (stW kk (ad 3) g u rv)) ((sX7_about g u rv x).2) ((sX7_about g u rv x).1)) (XKX G kk ([(h, .inr (7, mrG ad))] ++ (stW kk (ad 3) g u rv)) [1] ((sX7_about g u rv x).1)) := by
  refine cx_start (by decide +kernel) (Nat.le_of_ble_eq_true rfl) ?_
  intro p e s m below meth c A ls hx hb hr hml hown hts hlocks hA hE hK hP hD hS hl hxt
  have hown : s.vm.findClass RX7 = some m.cls := hown
  have hl : lv_has ls 2 [(0, .ref h), (1, .int x)] := hl
  have eS : sX7_about g u rv x = sX7_about g u rv x := rfl
  refine lv_iload_n hx hb dX7_about_0 rfl (lv_at hl 1 rfl) ?_
  refine lv_if_lt (tgt := 10) hx hb dX7_about_1 (by decide) (fun c_1 => ?_) (fun c_1 => ?_)
  · have eS := eS.trans (if_pos c_1)
    exact fin_x (k := 1) hst hx hb hown hts hlocks hE hK hP hD hS hl.1 hml hxt tw_1 st_128 ⟨rfl, by decide⟩ (congrArg (fun z : Int32 × Int32 => z.1) eS) (Nat.le_of_ble_eq_true rfl) (Nat.le_of_ble_eq_true rfl) (Nat.le_refl _) (Nat.le_refl _) dX7_about_10 dX7_about_13 dX7_about_14 dX7_about_16 dX7_about_19
  · have eS := eS.trans (if_neg c_1)
    refine lv_iload_n hx hb dX7_about_4 rfl (lv_at hl 1 rfl) ?_
    refine lv_bipush (v := 10) hx hb dX7_about_5 (by decide) ?_
    refine lv_icmp_le (tgt := 20) hx hb dX7_about_7 (by decide) (fun c_7 => ?_) (fun c_7 => ?_)
    · have eS := eS.trans (if_pos c_7)
      refine lv_aload_n hx hb dX7_about_20 rfl (lv_at hl 0 rfl) ?_
      refine r_get (v := .ref ((ad 3) 0)) hx hb hts hown hK hP fl_X7_23 0 rfl rfl dX7_about_21 ?_
      refine lv_iload_n hx hb dX7_about_24 rfl (lv_at hl 1 rfl) ?_
      refine k_goI (k_runV (rest := []) (As := [.int x]) hx hb hml hown hts hK hP hD hS hA hE hl.1 (c_X5_account l G kk (ad 3) g u rv x ) vl_X7_130 rfl rfl rfl ⟨Nat.le_of_ble_eq_true rfl, Nat.le_of_ble_eq_true rfl, rfl, rfl⟩ (List.range' 1 9) (by decide +kernel) (skip_map (m := 1) (n := 0) (sg_Ce st_len) rfl) ⟨Nat.zero_le _, Nat.zero_le _⟩ rfl (Nat.le_of_ble_eq_true rfl) dX7_about_25) hP hD hS hA (List.range' 1 9) (skip_map (m := 1) (n := 0) (sg_Ce st_len) rfl) st_ads (fun H locs hP hD hS => ?_)
      replace hP : va_P G vwCl ([(h, .inr (7, mrG ad))] ++ (stW kk (ad 3) g u rv)) H := vP_eq2 hP (sm_same (skip_map (m := 1) (n := 0) (sg_Ce st_len) rfl))
      replace hD : va_D A ([(h, .inr (7, mrG ad))] ++ (stW kk (ad 3) g u rv)) := vD_eq2 hD (sm_same (skip_map (m := 1) (n := 0) (sg_Ce st_len) rfl))
      exact fin_ix hx hb hr hlocks hK hP hD hS (congrArg (fun z : Int32 × Int32 => z.2) eS) (congrArg (fun z : Int32 × Int32 => z.1) eS) dX7_about_28
    · have eS := eS.trans (if_neg c_7)
      exact fin_x (k := 1) hst hx hb hown hts hlocks hE hK hP hD hS hl.1 hml hxt tw_1 st_128 ⟨rfl, by decide⟩ (congrArg (fun z : Int32 × Int32 => z.1) eS) (Nat.le_of_ble_eq_true rfl) (Nat.le_of_ble_eq_true rfl) (Nat.le_refl _) (Nat.le_refl _) dX7_about_10 dX7_about_13 dX7_about_14 dX7_about_16 dX7_about_19
def sX7_room (g : Nat → Int32) (u : Nat → Int32) (rv : Nat → Nat → Int32) (x : Int32) (y : Int32) : Int32 × Int32 :=
  (oe (sX5_roomAt g u rv x) (3, 0) (fun k_2 => (if y < 0 then (1, 0) else (if y ≤ 7 then (0, (sX2_property (rv k_2) y)) else (1, 0)))))
set_option maxRecDepth 100000 in
set_option maxHeartbeats 4000000 in
theorem c_X7_room (l : Launch) (hst : l.stackTraces = false) (G : va_G) (kk : Nat → ClassId) (h : Nat) (ad : Nat → Nat → Nat) (g : Nat → Int32) (u : Nat → Int32) (rv : Nat → Nat → Int32) (x : Int32) (y : Int32)  : CX l yX7_room cX7_room 4 (some .int) (rmX 6 82) [.ref h, .int x, .int y] G kk ([(h, .inr (7, mrG ad))] ++ (stW kk (ad 3) g u rv)) (QIX G kk ([(h, .inr (7, mrG ad))] ++ (stW kk (ad 3) g u rv)) ((sX7_room g u rv x y).2) ((sX7_room g u rv x y).1)) (XKX G kk ([(h, .inr (7, mrG ad))] ++ (stW kk (ad 3) g u rv)) [1, 3] ((sX7_room g u rv x y).1)) := by
  refine cx_start (by decide +kernel) (Nat.le_of_ble_eq_true rfl) ?_
  intro p e s m below meth c A ls hx hb hr hml hown hts hlocks hA hE hK hP hD hS hl hxt
  have hown : s.vm.findClass RX7 = some m.cls := hown
  have hl : lv_has ls 4 [(0, .ref h), (1, .int x), (2, .int y)] := hl
  have eS : sX7_room g u rv x y = sX7_room g u rv x y := rfl
  refine lv_aload_n hx hb dX7_room_0 rfl (lv_at hl 0 rfl) ?_
  refine r_get (v := .ref ((ad 3) 0)) hx hb hts hown hK hP fl_X7_23 0 rfl rfl dX7_room_1 ?_
  refine lv_iload_n hx hb dX7_room_4 rfl (lv_at hl 1 rfl) ?_
  refine k_goQ (k_runV (rest := []) (As := [.int x]) hx hb hml hown hts hK hP hD hS hA hE hl.1 (c_X5_roomAt l G kk (ad 3) g u rv x ) vl_X7_133 rfl rfl rfl ⟨Nat.le_of_ble_eq_true rfl, Nat.le_of_ble_eq_true rfl, rfl, rfl⟩ (List.range' 1 9) (by decide +kernel) (skip_map (m := 1) (n := 0) (sg_Ce st_len) rfl) ⟨Nat.zero_le _, Nat.zero_le _⟩ rfl (Nat.le_of_ble_eq_true rfl) dX7_room_5) hP hD hS hA (List.range' 1 9) (skip_map (m := 1) (n := 0) (sg_Ce st_len) rfl) st_ads (fun H locs hP hD hS => ?_)
  replace hP : va_P G vwCl ([(h, .inr (7, mrG ad))] ++ (stW kk (ad 3) g u rv)) H := vP_eq2 hP (sm_same (skip_map (m := 1) (n := 0) (sg_Ce st_len) rfl))
  replace hD : va_D A ([(h, .inr (7, mrG ad))] ++ (stW kk (ad 3) g u rv)) := vD_eq2 hD (sm_same (skip_map (m := 1) (n := 0) (sg_Ce st_len) rfl))
  rcases opt_or ((sX5_roomAt g u rv x)) with hq_1 | ⟨k_2, hq_1⟩
  · refine top_eqV (y := .null) (by rw [hq_1]; rfl) ?_
    have eS := eS.trans (oe_n hq_1)
    refine lv_astore_nN (lv' := [(3, .null), (0, .ref h), (1, .int x), (2, .int y)]) hx hb dX7_room_8 rfl hl (by decide) rfl (fun ls hl => ?_)
    refine lv_aload_nN hx hb dX7_room_9 rfl (lv_at hl 0 rfl) ?_
    refine lv_ifnonnullN hx hb dX7_room_10 ?_
    exact fin_x (k := 3) hst hx hb hown hts hlocks hE hK hP hD hS hl.1 hml hxt tw_3 st_139 ⟨rfl, by decide⟩ (congrArg (fun z : Int32 × Int32 => z.1) eS) (Nat.le_of_ble_eq_true rfl) (Nat.le_of_ble_eq_true rfl) (Nat.le_refl _) (Nat.le_refl _) dX7_room_13 dX7_room_16 dX7_room_17 dX7_room_19 dX7_room_22
  · refine top_eqV (y := .ref ((ad 3) (3 + k_2))) (by rw [hq_1]; rfl) ?_
    have hk_2 := roomAt_lt hq_1
    have eS := eS.trans (oe_s hq_1)
    refine lv_astore_n (lv' := [(3, .ref ((ad 3) (3 + k_2))), (0, .ref h), (1, .int x), (2, .int y)]) hx hb dX7_room_8 rfl hl (by decide) rfl (fun ls hl => ?_)
    refine lv_aload_n hx hb dX7_room_9 rfl (lv_at hl 0 rfl) ?_
    refine lv_ifnonnull (tgt := 23) hx hb dX7_room_10 (by decide) ?_
    refine lv_iload_n hx hb dX7_room_23 rfl (lv_at hl 3 rfl) ?_
    refine lv_if_lt (tgt := 33) hx hb dX7_room_24 (by decide) (fun c_24 => ?_) (fun c_24 => ?_)
    · have eS := eS.trans (if_pos c_24)
      exact fin_x (k := 1) hst hx hb hown hts hlocks hE hK hP hD hS hl.1 hml hxt tw_1 st_142 ⟨rfl, by decide⟩ (congrArg (fun z : Int32 × Int32 => z.1) eS) (Nat.le_of_ble_eq_true rfl) (Nat.le_of_ble_eq_true rfl) (Nat.le_refl _) (Nat.le_refl _) dX7_room_33 dX7_room_36 dX7_room_37 dX7_room_39 dX7_room_42
    · have eS := eS.trans (if_neg c_24)
      refine lv_iload_n hx hb dX7_room_27 rfl (lv_at hl 3 rfl) ?_
      refine lv_bipush (v := 7) hx hb dX7_room_28 (by decide) ?_
      refine lv_icmp_le (tgt := 43) hx hb dX7_room_30 (by decide) (fun c_30 => ?_) (fun c_30 => ?_)
      · have eS := eS.trans (if_pos c_30)
        refine lv_aload_n hx hb dX7_room_43 rfl (lv_at hl 0 rfl) ?_
        refine lv_iload_n hx hb dX7_room_44 rfl (lv_at hl 3 rfl) ?_
        refine k_goI (k_runV (rest := []) (As := [.int y]) hx hb hml hown hts hK hP hD hS hA hE hl.1 (c_X2_property l G kk ((ad 3) (3 + k_2)) (rv k_2) y ) vl_X7_144 rfl rfl rfl ⟨Nat.le_of_ble_eq_true rfl, Nat.le_of_ble_eq_true rfl, rfl, rfl⟩ ([1 + (3 + k_2)]) (nd1 _) (mp_c (sk_get (m := 1) (n := 3 + k_2) (st_at hk_2) rfl) mp_nil) ⟨Nat.zero_le _, Nat.zero_le _⟩ rfl (Nat.le_of_ble_eq_true rfl) dX7_room_45) hP hD hS hA ([1 + (3 + k_2)]) (mp_c (sk_get (m := 1) (n := 3 + k_2) (st_at hk_2) rfl) mp_nil) ads1 (fun H locs hP hD hS => ?_)
        replace hP : va_P G vwCl ([(h, .inr (7, mrG ad))] ++ (stW kk (ad 3) g u rv)) H := vP_eq2 hP (sm_same (mp_c (sk_get (m := 1) (n := 3 + k_2) (st_at hk_2) rfl) mp_nil))
        replace hD : va_D A ([(h, .inr (7, mrG ad))] ++ (stW kk (ad 3) g u rv)) := vD_eq2 hD (sm_same (mp_c (sk_get (m := 1) (n := 3 + k_2) (st_at hk_2) rfl) mp_nil))
        exact fin_ix hx hb hr hlocks hK hP hD hS (congrArg (fun z : Int32 × Int32 => z.2) eS) (congrArg (fun z : Int32 × Int32 => z.1) eS) dX7_room_48
      · have eS := eS.trans (if_neg c_30)
        exact fin_x (k := 1) hst hx hb hown hts hlocks hE hK hP hD hS hl.1 hml hxt tw_1 st_142 ⟨rfl, by decide⟩ (congrArg (fun z : Int32 × Int32 => z.1) eS) (Nat.le_of_ble_eq_true rfl) (Nat.le_of_ble_eq_true rfl) (Nat.le_refl _) (Nat.le_refl _) dX7_room_33 dX7_room_36 dX7_room_37 dX7_room_39 dX7_room_42
def sX7_does_z_3 (g : Nat → Int32) (u : Nat → Int32) (rv : Nat → Nat → Int32) (x : Int32) (k_2 : Nat) (z_3 : Int32 × (Nat → Nat → Int32)) : Int32 × Int32 × (Nat → Nat → Int32) :=
  (0, ((z_3.2 k_2) 9), z_3.2)
def sX7_does (g : Nat → Int32) (u : Nat → Int32) (rv : Nat → Nat → Int32) (x : Int32) : Int32 × Int32 × (Nat → Nat → Int32) :=
  (oe (sX5_roomAt g u rv x) (3, 0, rv) (fun k_2 => (sX7_does_z_3 g u rv x k_2 (sX5_planMinute g u rv))))
set_option maxRecDepth 100000 in
set_option maxHeartbeats 4000000 in
theorem c_X7_does (l : Launch) (hst : l.stackTraces = false) (G : va_G) (kk : Nat → ClassId) (h : Nat) (ad : Nat → Nat → Nat) (g : Nat → Int32) (u : Nat → Int32) (rv : Nat → Nat → Int32) (x : Int32)  : CX l yX7_does cX7_does 3 (some .int) (rmX 6 82) [.ref h, .int x] G kk ([(h, .inr (7, mrG ad))] ++ (stW kk (ad 3) g u rv)) (QIX G kk ([(h, .inr (7, mrG ad))] ++ (stW kk (ad 3) g u ((sX7_does g u rv x).2.2))) ((sX7_does g u rv x).2.1) ((sX7_does g u rv x).1)) (XKX G kk ([(h, .inr (7, mrG ad))] ++ (stW kk (ad 3) g u ((sX7_does g u rv x).2.2))) [3] ((sX7_does g u rv x).1)) := by
  refine cx_start (by decide +kernel) (Nat.le_of_ble_eq_true rfl) ?_
  intro p e s m below meth c A ls hx hb hr hml hown hts hlocks hA hE hK hP hD hS hl hxt
  have hown : s.vm.findClass RX7 = some m.cls := hown
  have hl : lv_has ls 3 [(0, .ref h), (1, .int x)] := hl
  have eS : sX7_does g u rv x = sX7_does g u rv x := rfl
  refine lv_aload_n hx hb dX7_does_0 rfl (lv_at hl 0 rfl) ?_
  refine r_get (v := .ref ((ad 3) 0)) hx hb hts hown hK hP fl_X7_23 0 rfl rfl dX7_does_1 ?_
  refine lv_iload_n hx hb dX7_does_4 rfl (lv_at hl 1 rfl) ?_
  refine k_goQ (k_runV (rest := []) (As := [.int x]) hx hb hml hown hts hK hP hD hS hA hE hl.1 (c_X5_roomAt l G kk (ad 3) g u rv x ) vl_X7_133 rfl rfl rfl ⟨Nat.le_of_ble_eq_true rfl, Nat.le_of_ble_eq_true rfl, rfl, rfl⟩ (List.range' 1 9) (by decide +kernel) (skip_map (m := 1) (n := 0) (sg_Ce st_len) rfl) ⟨Nat.zero_le _, Nat.zero_le _⟩ rfl (Nat.le_of_ble_eq_true rfl) dX7_does_5) hP hD hS hA (List.range' 1 9) (skip_map (m := 1) (n := 0) (sg_Ce st_len) rfl) st_ads (fun H locs hP hD hS => ?_)
  replace hP : va_P G vwCl ([(h, .inr (7, mrG ad))] ++ (stW kk (ad 3) g u rv)) H := vP_eq2 hP (sm_same (skip_map (m := 1) (n := 0) (sg_Ce st_len) rfl))
  replace hD : va_D A ([(h, .inr (7, mrG ad))] ++ (stW kk (ad 3) g u rv)) := vD_eq2 hD (sm_same (skip_map (m := 1) (n := 0) (sg_Ce st_len) rfl))
  rcases opt_or ((sX5_roomAt g u rv x)) with hq_1 | ⟨k_2, hq_1⟩
  · refine top_eqV (y := .null) (by rw [hq_1]; rfl) ?_
    have eS := eS.trans (oe_n hq_1)
    refine lv_astore_nN (lv' := [(2, .null), (0, .ref h), (1, .int x)]) hx hb dX7_does_8 rfl hl (by decide) rfl (fun ls hl => ?_)
    refine lv_aload_nN hx hb dX7_does_9 rfl (lv_at hl 0 rfl) ?_
    refine lv_ifnonnullN hx hb dX7_does_10 ?_
    exact fin_x (k := 3) hst hx hb hown hts hlocks hE hK (vP_eq (congrArg (fun z : Int32 × Int32 × (Nat → Nat → Int32) => ([(h, .inr (7, mrG ad))] ++ (stW kk (ad 3) g u z.2.2) : va_W)) eS.symm) hP) (vD_eq (congrArg (fun z : Int32 × Int32 × (Nat → Nat → Int32) => ([(h, .inr (7, mrG ad))] ++ (stW kk (ad 3) g u z.2.2) : va_W)) eS.symm) hD) hS hl.1 hml hxt tw_3 st_139 ⟨rfl, by decide⟩ (congrArg (fun z : Int32 × Int32 × (Nat → Nat → Int32) => z.1) eS) (Nat.le_of_ble_eq_true rfl) (Nat.le_of_ble_eq_true rfl) (Nat.le_refl _) (Nat.le_refl _) dX7_does_13 dX7_does_16 dX7_does_17 dX7_does_19 dX7_does_22
  · refine top_eqV (y := .ref ((ad 3) (3 + k_2))) (by rw [hq_1]; rfl) ?_
    have hk_2 := roomAt_lt hq_1
    have eS := eS.trans (oe_s hq_1)
    refine lv_astore_n (lv' := [(2, .ref ((ad 3) (3 + k_2))), (0, .ref h), (1, .int x)]) hx hb dX7_does_8 rfl hl (by decide) rfl (fun ls hl => ?_)
    refine lv_aload_n hx hb dX7_does_9 rfl (lv_at hl 0 rfl) ?_
    refine lv_ifnonnull (tgt := 23) hx hb dX7_does_10 (by decide) ?_
    refine lv_aload_n hx hb dX7_does_23 rfl (lv_at hl 1 rfl) ?_
    refine r_get (v := .ref ((ad 3) 0)) hx hb hts hown hK hP fl_X7_23 0 rfl rfl dX7_does_24 ?_
    refine k_goI (k_runV (rest := []) (As := []) hx hb hml hown hts hK hP hD hS hA hE hl.1 (c_X5_planMinute l G kk (ad 3) g u rv ) vl_X7_149 rfl rfl rfl ⟨Nat.le_of_ble_eq_true rfl, Nat.le_of_ble_eq_true rfl, rfl, rfl⟩ (List.range' 1 9) (by decide +kernel) (skip_map (m := 1) (n := 0) (sg_Ce st_len) rfl) ⟨Nat.zero_le _, Nat.zero_le _⟩ rfl (Nat.le_of_ble_eq_true rfl) dX7_does_27) hP hD hS hA (List.range' 1 9) (skip_map (m := 1) (n := 0) (sg_Ce st_len) rfl) st_ads (fun H locs hP hD hS => ?_)
    replace hP : va_P G vwCl ([(h, .inr (7, mrG ad))] ++ (stW kk (ad 3) g u ((sX5_planMinute g u rv).2))) H := vP_eq2 hP (skip_set (m := 1) (n := 0) (sg_Se st_len st_len) rfl)
    replace hD : va_D A ([(h, .inr (7, mrG ad))] ++ (stW kk (ad 3) g u ((sX5_planMinute g u rv).2))) := vD_eq2 hD (skip_set (m := 1) (n := 0) (sg_Se st_len st_len) rfl)
    have eS : sX7_does g u rv x = sX7_does_z_3 g u rv x k_2 (sX5_planMinute g u rv) := eS
    generalize sX5_planMinute g u rv = z_3 at hP hD eS ⊢
    refine lv_pop hx hb dX7_does_30 rfl ?_
    refine lv_aload_n hx hb dX7_does_31 rfl (lv_at hl 0 rfl) ?_
    refine r_getN (v := .int ((z_3.2 k_2) 9)) hE hx hb hts hown hK hP fn_X7_152 (1 + (3 + k_2)) (sk_get (m := 1) (n := 3 + k_2) (st_at hk_2) rfl) rfl dX7_does_32 ?_
    exact fin_ix hx hb hr hlocks hK (vP_eq (congrArg (fun z : Int32 × Int32 × (Nat → Nat → Int32) => ([(h, .inr (7, mrG ad))] ++ (stW kk (ad 3) g u z.2.2) : va_W)) eS.symm) hP) (vD_eq (congrArg (fun z : Int32 × Int32 × (Nat → Nat → Int32) => ([(h, .inr (7, mrG ad))] ++ (stW kk (ad 3) g u z.2.2) : va_W)) eS.symm) hD) hS (congrArg (fun z : Int32 × Int32 × (Nat → Nat → Int32) => z.2.1) eS) (congrArg (fun z : Int32 × Int32 × (Nat → Nat → Int32) => z.1) eS) dX7_does_35
def sX7_setting (g : Nat → Int32) (u : Nat → Int32) (rv : Nat → Nat → Int32) (x : Int32) : Int32 × Int32 :=
  (if (sX3_isSetting x) = 0 then (1, 0) else (0, (sX3_value u x)))
set_option maxRecDepth 100000 in
set_option maxHeartbeats 4000000 in
theorem c_X7_setting (l : Launch) (hst : l.stackTraces = false) (G : va_G) (kk : Nat → ClassId) (h : Nat) (ad : Nat → Nat → Nat) (g : Nat → Int32) (u : Nat → Int32) (rv : Nat → Nat → Int32) (x : Int32)  : CX l yX7_setting cX7_setting 2 (some .int) (rmX 6 82) [.ref h, .int x] G kk ([(h, .inr (7, mrG ad))] ++ (stW kk (ad 3) g u rv)) (QIX G kk ([(h, .inr (7, mrG ad))] ++ (stW kk (ad 3) g u rv)) ((sX7_setting g u rv x).2) ((sX7_setting g u rv x).1)) (XKX G kk ([(h, .inr (7, mrG ad))] ++ (stW kk (ad 3) g u rv)) [1] ((sX7_setting g u rv x).1)) := by
  refine cx_start (by decide +kernel) (Nat.le_of_ble_eq_true rfl) ?_
  intro p e s m below meth c A ls hx hb hr hml hown hts hlocks hA hE hK hP hD hS hl hxt
  have hown : s.vm.findClass RX7 = some m.cls := hown
  have hl : lv_has ls 2 [(0, .ref h), (1, .int x)] := hl
  have eS : sX7_setting g u rv x = sX7_setting g u rv x := rfl
  refine lv_iload_n hx hb dX7_setting_0 rfl (lv_at hl 1 rfl) ?_
  refine k_goI (k_runS (rest := []) (As := [.int x]) hx hb hml hown hts hK hP hD hS hA hE hl.1 (c_X3_isSetting l G kk x ) sl_X7_155 ⟨Nat.le_of_ble_eq_true rfl, Nat.le_of_ble_eq_true rfl, rfl, rfl⟩ ([]) (by decide +kernel) mp_nil ⟨Nat.zero_le _, Nat.zero_le _⟩ rfl (Nat.le_of_ble_eq_true rfl) dX7_setting_1) hP hD hS hA ([]) mp_nil ads0 (fun H locs hP hD hS => ?_)
  replace hP : va_P G vwCl ([(h, .inr (7, mrG ad))] ++ (stW kk (ad 3) g u rv)) H := hP
  replace hD : va_D A ([(h, .inr (7, mrG ad))] ++ (stW kk (ad 3) g u rv)) := hD
  refine lv_if_ne (tgt := 17) hx hb dX7_setting_4 (by decide) (fun c_4 => ?_) (fun c_4 => ?_)
  · have eS := eS.trans (if_neg c_4)
    refine lv_aload_n hx hb dX7_setting_17 rfl (lv_at hl 0 rfl) ?_
    refine r_get (v := .ref ((ad 3) 0)) hx hb hts hown hK hP fl_X7_23 0 rfl rfl dX7_setting_18 ?_
    refine r_getN (v := .ref ((ad 3) 1)) hE hx hb hts hown hK hP fn_X7_162 1 (sk_get (m := 1) (n := 0) rfl rfl) rfl dX7_setting_21 ?_
    refine lv_iload_n hx hb dX7_setting_24 rfl (lv_at hl 1 rfl) ?_
    refine k_goI (k_runV (rest := []) (As := [.int x]) hx hb hml hown hts hK hP hD hS hA hE hl.1 (c_X3_value l G kk ((ad 3) 1) u x ) vl_X7_166 rfl rfl rfl ⟨Nat.le_of_ble_eq_true rfl, Nat.le_of_ble_eq_true rfl, rfl, rfl⟩ ([2]) (by decide +kernel) (mp_c (sk_get (m := 1) (n := 1) rfl rfl) mp_nil) ⟨Nat.zero_le _, Nat.zero_le _⟩ rfl (Nat.le_of_ble_eq_true rfl) dX7_setting_25) hP hD hS hA ([2]) (mp_c (sk_get (m := 1) (n := 1) rfl rfl) mp_nil) ads1 (fun H locs hP hD hS => ?_)
    replace hP : va_P G vwCl ([(h, .inr (7, mrG ad))] ++ (stW kk (ad 3) g u rv)) H := vP_eq2 hP (sm_same (mp_c (sk_get (m := 1) (n := 1) rfl rfl) mp_nil))
    replace hD : va_D A ([(h, .inr (7, mrG ad))] ++ (stW kk (ad 3) g u rv)) := vD_eq2 hD (sm_same (mp_c (sk_get (m := 1) (n := 1) rfl rfl) mp_nil))
    exact fin_ix hx hb hr hlocks hK hP hD hS (congrArg (fun z : Int32 × Int32 => z.2) eS) (congrArg (fun z : Int32 × Int32 => z.1) eS) dX7_setting_28
  · have eS := eS.trans (if_pos c_4)
    exact fin_x (k := 1) hst hx hb hown hts hlocks hE hK hP hD hS hl.1 hml hxt tw_1 st_160 ⟨rfl, by decide⟩ (congrArg (fun z : Int32 × Int32 => z.1) eS) (Nat.le_of_ble_eq_true rfl) (Nat.le_of_ble_eq_true rfl) (Nat.le_refl _) (Nat.le_refl _) dX7_setting_7 dX7_setting_10 dX7_setting_11 dX7_setting_13 dX7_setting_16
