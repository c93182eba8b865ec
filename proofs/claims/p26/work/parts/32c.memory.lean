theorem tb_1 {c : Nat} (h : ¬ nI c ≤ 0) : 1 ≤ c := by
  rcases Nat.lt_or_ge c 1 with r | r
  · have : c = 0 := by omega
    subst this
    exact absurd (by decide) h
  · exact r
def sX0_takeBack_z_1 (q : Nat → Int32) (r : Nat → Nat) (mg : Nat → Nat → Int32) (mu : Nat → Nat → Int32) (mr : Nat → Nat → Nat → Int32) (g2 : Nat → Int32) (u2 : Nat → Int32) (rv2 : Nat → Nat → Int32) (cc : Nat) (z_1 : (Nat → Int32) × (Nat → Int32) × (Nat → Nat → Int32)) : (Nat → Int32) × (Nat → Int32) × (Nat → Int32) × (Nat → Nat → Int32) :=
  ((upd q 1 (nI (cc - 1))), z_1.1, z_1.2.1, z_1.2.2)
def sX0_takeBack (q : Nat → Int32) (r : Nat → Nat) (mg : Nat → Nat → Int32) (mu : Nat → Nat → Int32) (mr : Nat → Nat → Nat → Int32) (g2 : Nat → Int32) (u2 : Nat → Int32) (rv2 : Nat → Nat → Int32) (cc : Nat) : (Nat → Int32) × (Nat → Int32) × (Nat → Int32) × (Nat → Nat → Int32) :=
  (if (nI cc) ≤ 0 then (q, g2, u2, rv2) else (sX0_takeBack_z_1 q r mg mu mr g2 u2 rv2 cc (sX5_copyFrom g2 u2 rv2 (mg (r (cc - 1))) (mu (r (cc - 1))) (mr (r (cc - 1))))))
set_option maxRecDepth 100000 in
set_option maxHeartbeats 4000000 in
theorem c_X0_takeBack (l : Launch) (G : va_G) (kk : Nat → ClassId) (h : Nat) (ra : Nat) (ma : Nat → Nat → Nat) (q : Nat → Int32) (r : Nat → Nat) (mg : Nat → Nat → Int32) (mu : Nat → Nat → Int32) (mr : Nat → Nat → Nat → Int32) (a2 : Nat → Nat) (g2 : Nat → Int32) (u2 : Nat → Int32) (rv2 : Nat → Nat → Int32) (cc : Nat) (hq : q 1 = nI cc) (hc : cc ≤ 14) (hrr : ∀ j, j < 14 → r j < 14) (hzm : ∀ p, p < 14 → ∀ i, i < 6 → zb (mr p i 5)) : CC l yX0_takeBack cX0_takeBack 2 none (rmO 2 43) [.ref h, .ref (a2 0)] G kk ([(h, .inr (0, mmF ra q)), (ra, .inl (kk 4, 14, .inr (.inr (.inr (.inr (rowF ma r))))))] ++ (stsF kk ma mg mu mr 0 14 ++ (stW kk a2 g2 u2 rv2))) (QV G kk ([(h, .inr (0, mmF ra ((sX0_takeBack q r mg mu mr g2 u2 rv2 cc).1))), (ra, .inl (kk 4, 14, .inr (.inr (.inr (.inr (rowF ma r))))))] ++ (stsF kk ma mg mu mr 0 14 ++ (stW kk a2 ((sX0_takeBack q r mg mu mr g2 u2 rv2 cc).2.1) ((sX0_takeBack q r mg mu mr g2 u2 rv2 cc).2.2.1) ((sX0_takeBack q r mg mu mr g2 u2 rv2 cc).2.2.2))))) := by
  refine cc_start (by decide +kernel) (Nat.le_of_ble_eq_true rfl) ?_
  intro p e s m below meth c A ls hx hb hr hml hown hts hlocks hA hE hK hP hD hS hl
  have hown : s.vm.findClass RX0 = some m.cls := hown
  have hl : lv_has ls 2 [(0, .ref h), (1, .ref (a2 0))] := hl
  have eS : sX0_takeBack q r mg mu mr g2 u2 rv2 cc = sX0_takeBack q r mg mu mr g2 u2 rv2 cc := rfl
  refine lv_aload_n hx hb dX0_takeBack_0 rfl (lv_at hl 0 rfl) ?_
  refine r_get (v := .int (q 1)) hx hb hts hown hK hP fl_X0_18 0 rfl rfl dX0_takeBack_1 ?_
  refine top_eq (y := (nI cc)) (hq) ?_
  refine lv_if_le (tgt := 42) hx hb dX0_takeBack_4 (by decide) (fun c_4 => ?_) (fun c_4 => ?_)
  · have eS := eS.trans (if_pos c_4)
    exact fin_v hx hb hr hlocks hK (vP_eq (congrArg (fun z : (Nat → Int32) × (Nat → Int32) × (Nat → Int32) × (Nat → Nat → Int32) => ([(h, .inr (0, mmF ra z.1)), (ra, .inl (kk 4, 14, .inr (.inr (.inr (.inr (rowF ma r))))))] ++ (stsF kk ma mg mu mr 0 14 ++ (stW kk a2 z.2.1 z.2.2.1 z.2.2.2)) : va_W)) eS.symm) hP) (vD_eq (congrArg (fun z : (Nat → Int32) × (Nat → Int32) × (Nat → Int32) × (Nat → Nat → Int32) => ([(h, .inr (0, mmF ra z.1)), (ra, .inl (kk 4, 14, .inr (.inr (.inr (.inr (rowF ma r))))))] ++ (stsF kk ma mg mu mr 0 14 ++ (stW kk a2 z.2.1 z.2.2.1 z.2.2.2)) : va_W)) eS.symm) hD) hS dX0_takeBack_42
  · have eS := eS.trans (if_neg c_4)
    refine lv_aload_n hx hb dX0_takeBack_7 rfl (lv_at hl 0 rfl) ?_
    refine r_get (v := .int (q 1)) hx hb hts hown hK hP fl_X0_18 0 rfl rfl dX0_takeBack_8 ?_
    refine top_eq (y := (nI cc)) (hq) ?_
    refine lv_aload_n hx hb dX0_takeBack_11 rfl (lv_at hl 0 rfl) ?_
    refine r_get (v := .ref ra) hx hb hts hown hK hP fl_X0_11 0 rfl rfl dX0_takeBack_12 ?_
    refine r_alen (t0 := 4) hx hb hK hP 1 rfl rfl dX0_takeBack_15 ?_
    refine lv_icmp_gt (tgt := 42) hx hb dX0_takeBack_16 (by decide) (fun c_16 => absurd c_16 ((fun q => absurd ((nI_ltI (a := 14) (b := cc) (by omega) (by omega)).mp q) (by omega)))) (fun c_16 => ?_)
    refine lv_aload_n hx hb dX0_takeBack_19 rfl (lv_at hl 0 rfl) ?_
    refine lv_dup hx hb dX0_takeBack_20 rfl ?_
    refine r_get (v := .int (q 1)) hx hb hts hown hK hP fl_X0_18 0 rfl rfl dX0_takeBack_21 ?_
    refine top_eq (y := (nI cc)) (hq) ?_
    refine lv_iconst (v := 1) hx hb dX0_takeBack_24 (by decide) ?_
    refine lv_isub hx hb dX0_takeBack_25 ?_
    refine top_eq (y := (nI (cc - 1))) (pk_sub (tb_1 c_4)) ?_
    refine r_put hx hb hts hown hK hP hD hS fl_X0_18 fw_0_1 0 rfl rfl rfl (Nat.le_of_ble_eq_true rfl) dX0_takeBack_26 (fun H locs hP hD hS => ?_)
    replace hP : va_P G vwCl ([(h, .inr (0, mmF ra (upd q 1 (nI (cc - 1))))), (ra, .inl (kk 4, 14, .inr (.inr (.inr (.inr (rowF ma r))))))] ++ (stsF kk ma mg mu mr 0 14 ++ (stW kk a2 g2 u2 rv2))) H := hP
    replace hD : va_D A ([(h, .inr (0, mmF ra (upd q 1 (nI (cc - 1))))), (ra, .inl (kk 4, 14, .inr (.inr (.inr (.inr (rowF ma r))))))] ++ (stsF kk ma mg mu mr 0 14 ++ (stW kk a2 g2 u2 rv2))) := hD
    refine lv_aload_n hx hb dX0_takeBack_29 rfl (lv_at hl 1 rfl) ?_
    refine lv_aload_n hx hb dX0_takeBack_30 rfl (lv_at hl 0 rfl) ?_
    refine r_get (v := .ref ra) hx hb hts hown hK hP fl_X0_11 0 rfl rfl dX0_takeBack_31 ?_
    refine lv_aload_n hx hb dX0_takeBack_34 rfl (lv_at hl 0 rfl) ?_
    refine r_get (v := .int (nI (cc - 1))) hx hb hts hown hK hP fl_X0_18 0 rfl rfl dX0_takeBack_35 ?_
    refine r_aald hx hb hK hP 1 4 rfl rfl (cc - 1) ((ma (r (cc - 1))) 0) rfl (by have := tb_1 c_4; omega) (by decide) rfl dX0_takeBack_38 ?_
    refine k_goV (k_runV (rest := []) (As := [.ref ((ma (r (cc - 1))) 0)]) hx hb hml hown hts hK hP hD hS hA hE hl.1 (c_X5_copyFrom l G kk a2 (ma (r (cc - 1))) g2 u2 rv2 (mg (r (cc - 1))) (mu (r (cc - 1))) (mr (r (cc - 1))) (hzm _ (hrr (cc - 1) (by have := tb_1 c_4; omega)))) vl_X0_25 rfl rfl rfl ⟨Nat.le_of_ble_eq_true rfl, Nat.le_of_ble_eq_true rfl, rfl, rfl⟩ (List.range' 128 9 ++ List.range' (2 + 9 * (r (cc - 1))) 9) (nd_app2 9 128 9 _ (by have := (hrr (cc - 1) (by have := tb_1 c_4; omega)); omega)) (tb_C (hrr (cc - 1) (by have := tb_1 c_4; omega))) ⟨Nat.zero_le _, Nat.zero_le _⟩ rfl (Nat.le_of_ble_eq_true rfl) dX0_takeBack_39) hP hD hS hA (List.range' 128 9 ++ List.range' (2 + 9 * (r (cc - 1))) 9) (tb_C (hrr (cc - 1) (by have := tb_1 c_4; omega))) (ads_app st_ads st_ads) (fun H locs hP hD hS => ?_)
    replace hP : va_P G vwCl ([(h, .inr (0, mmF ra (upd q 1 (nI (cc - 1))))), (ra, .inl (kk 4, 14, .inr (.inr (.inr (.inr (rowF ma r))))))] ++ (stsF kk ma mg mu mr 0 14 ++ (stW kk a2 ((sX5_copyFrom g2 u2 rv2 (mg (r (cc - 1))) (mu (r (cc - 1))) (mr (r (cc - 1)))).1) ((sX5_copyFrom g2 u2 rv2 (mg (r (cc - 1))) (mu (r (cc - 1))) (mr (r (cc - 1)))).2.1) ((sX5_copyFrom g2 u2 rv2 (mg (r (cc - 1))) (mu (r (cc - 1))) (mr (r (cc - 1)))).2.2)))) H := vP_eq (tb_eq (hrr (cc - 1) (by have := tb_1 c_4; omega))) hP
    replace hD : va_D A ([(h, .inr (0, mmF ra (upd q 1 (nI (cc - 1))))), (ra, .inl (kk 4, 14, .inr (.inr (.inr (.inr (rowF ma r))))))] ++ (stsF kk ma mg mu mr 0 14 ++ (stW kk a2 ((sX5_copyFrom g2 u2 rv2 (mg (r (cc - 1))) (mu (r (cc - 1))) (mr (r (cc - 1)))).1) ((sX5_copyFrom g2 u2 rv2 (mg (r (cc - 1))) (mu (r (cc - 1))) (mr (r (cc - 1)))).2.1) ((sX5_copyFrom g2 u2 rv2 (mg (r (cc - 1))) (mu (r (cc - 1))) (mr (r (cc - 1)))).2.2)))) := vD_eq (tb_eq (hrr (cc - 1) (by have := tb_1 c_4; omega))) hD
    have eS : sX0_takeBack q r mg mu mr g2 u2 rv2 cc = sX0_takeBack_z_1 q r mg mu mr g2 u2 rv2 cc (sX5_copyFrom g2 u2 rv2 (mg (r (cc - 1))) (mu (r (cc - 1))) (mr (r (cc - 1)))) := eS
    generalize sX5_copyFrom g2 u2 rv2 (mg (r (cc - 1))) (mu (r (cc - 1))) (mr (r (cc - 1))) = z_1 at hP hD eS ⊢
    exact fin_v hx hb hr hlocks hK (vP_eq (congrArg (fun z : (Nat → Int32) × (Nat → Int32) × (Nat → Int32) × (Nat → Nat → Int32) => ([(h, .inr (0, mmF ra z.1)), (ra, .inl (kk 4, 14, .inr (.inr (.inr (.inr (rowF ma r))))))] ++ (stsF kk ma mg mu mr 0 14 ++ (stW kk a2 z.2.1 z.2.2.1 z.2.2.2)) : va_W)) eS.symm) hP) (vD_eq (congrArg (fun z : (Nat → Int32) × (Nat → Int32) × (Nat → Int32) × (Nat → Nat → Int32) => ([(h, .inr (0, mmF ra z.1)), (ra, .inl (kk 4, 14, .inr (.inr (.inr (.inr (rowF ma r))))))] ++ (stsF kk ma mg mu mr 0 14 ++ (stW kk a2 z.2.1 z.2.2.1 z.2.2.2)) : va_W)) eS.symm) hD) hS dX0_takeBack_42
def sX4_empty (q : Nat → Int32) : (Nat → Int32) :=
  (upd q 1 0)
set_option maxRecDepth 100000 in
set_option maxHeartbeats 4000000 in
theorem c_X4_empty (l : Launch) (G : va_G) (kk : Nat → ClassId) (h : Nat) (x : Nat) (q : Nat → Int32)  : CC l yX4_empty cX4_empty 1 none (rmO 0 0) [.ref h] G kk ([(h, .inr (4, slF x q))]) (QV G kk ([(h, .inr (4, slF x (sX4_empty q)))])) := by
  refine cc_start (by decide +kernel) (Nat.le_of_ble_eq_true rfl) ?_
  intro p e s m below meth c A ls hx hb hr hml hown hts hlocks hA hE hK hP hD hS hl
  have hown : s.vm.findClass RX4 = some m.cls := hown
  have hl : lv_has ls 1 [(0, .ref h)] := hl
  have eS : sX4_empty q = sX4_empty q := rfl
  refine lv_aload_n hx hb dX4_empty_0 rfl (lv_at hl 0 rfl) ?_
  refine lv_iconst (v := 0) hx hb dX4_empty_1 (by decide) ?_
  refine r_put hx hb hts hown hK hP hD hS fl_X4_16 fw_4_1 0 rfl rfl rfl (Nat.le_of_ble_eq_true rfl) dX4_empty_2 (fun H locs hP hD hS => ?_)
  replace hP : va_P G vwCl ([(h, .inr (4, slF x (upd q 1 0)))]) H := hP
  replace hD : va_D A ([(h, .inr (4, slF x (upd q 1 0)))]) := hD
  exact fin_v hx hb hr hlocks hK (vP_eq (congrArg (fun z : (Nat → Int32) => ([(h, .inr (4, slF x z))] : va_W)) eS.symm) hP) (vD_eq (congrArg (fun z : (Nat → Int32) => ([(h, .inr (4, slF x z))] : va_W)) eS.symm) hD) hS dX4_empty_5
def sX4_keep_z_1 (q : Nat → Int32) (g : Nat → Int32) (u : Nat → Int32) (rv : Nat → Nat → Int32) (g2 : Nat → Int32) (u2 : Nat → Int32) (rv2 : Nat → Nat → Int32) (z_1 : (Nat → Int32) × (Nat → Int32) × (Nat → Nat → Int32)) : (Nat → Int32) × (Nat → Int32) × (Nat → Int32) × (Nat → Nat → Int32) :=
  ((upd q 1 1), z_1.1, z_1.2.1, z_1.2.2)
def sX4_keep (q : Nat → Int32) (g : Nat → Int32) (u : Nat → Int32) (rv : Nat → Nat → Int32) (g2 : Nat → Int32) (u2 : Nat → Int32) (rv2 : Nat → Nat → Int32) : (Nat → Int32) × (Nat → Int32) × (Nat → Int32) × (Nat → Nat → Int32) :=
  (sX4_keep_z_1 q g u rv g2 u2 rv2 (sX5_copyFrom g u rv g2 u2 rv2))
set_option maxRecDepth 100000 in
set_option maxHeartbeats 4000000 in
theorem c_X4_keep (l : Launch) (G : va_G) (kk : Nat → ClassId) (h : Nat) (a : Nat → Nat) (a2 : Nat → Nat) (q : Nat → Int32) (g : Nat → Int32) (u : Nat → Int32) (rv : Nat → Nat → Int32) (g2 : Nat → Int32) (u2 : Nat → Int32) (rv2 : Nat → Nat → Int32) (hzb : ∀ i, i < 6 → zb (rv2 i 5)) : CC l yX4_keep cX4_keep 2 none (rmO 2 43) [.ref h, .ref (a2 0)] G kk ([(h, .inr (4, slF (a 0) q))] ++ (stW kk a g u rv ++ (stW kk a2 g2 u2 rv2))) (QV G kk ([(h, .inr (4, slF (a 0) ((sX4_keep q g u rv g2 u2 rv2).1)))] ++ (stW kk a ((sX4_keep q g u rv g2 u2 rv2).2.1) ((sX4_keep q g u rv g2 u2 rv2).2.2.1) ((sX4_keep q g u rv g2 u2 rv2).2.2.2) ++ (stW kk a2 g2 u2 rv2)))) := by
  refine cc_start (by decide +kernel) (Nat.le_of_ble_eq_true rfl) ?_
  intro p e s m below meth c A ls hx hb hr hml hown hts hlocks hA hE hK hP hD hS hl
  have hown : s.vm.findClass RX4 = some m.cls := hown
  have hl : lv_has ls 2 [(0, .ref h), (1, .ref (a2 0))] := hl
  have eS : sX4_keep q g u rv g2 u2 rv2 = sX4_keep q g u rv g2 u2 rv2 := rfl
  refine lv_aload_n hx hb dX4_keep_0 rfl (lv_at hl 0 rfl) ?_
  refine r_get (v := .ref (a 0)) hx hb hts hown hK hP fl_X4_10 0 rfl rfl dX4_keep_1 ?_
  refine lv_aload_n hx hb dX4_keep_4 rfl (lv_at hl 1 rfl) ?_
  refine k_goV (k_runV (rest := []) (As := [.ref (a2 0)]) hx hb hml hown hts hK hP hD hS hA hE hl.1 (c_X5_copyFrom l G kk a a2 g u rv g2 u2 rv2 hzb) vl_X4_20 rfl rfl rfl ⟨Nat.le_of_ble_eq_true rfl, Nat.le_of_ble_eq_true rfl, rfl, rfl⟩ [1, 2, 3, 4, 5, 6, 7, 8, 9, 10, 11, 12, 13, 14, 15, 16, 17, 18] rfl rfl ⟨Nat.zero_le _, Nat.zero_le _⟩ rfl (Nat.le_of_ble_eq_true rfl) dX4_keep_5) hP hD hS hA [1, 2, 3, 4, 5, 6, 7, 8, 9, 10, 11, 12, 13, 14, 15, 16, 17, 18] rfl (ads_app st_ads st_ads) (fun H locs hP hD hS => ?_)
  replace hP : va_P G vwCl ([(h, .inr (4, slF (a 0) q))] ++ (stW kk a ((sX5_copyFrom g u rv g2 u2 rv2).1) ((sX5_copyFrom g u rv g2 u2 rv2).2.1) ((sX5_copyFrom g u rv g2 u2 rv2).2.2) ++ (stW kk a2 g2 u2 rv2))) H := hP
  replace hD : va_D A ([(h, .inr (4, slF (a 0) q))] ++ (stW kk a ((sX5_copyFrom g u rv g2 u2 rv2).1) ((sX5_copyFrom g u rv g2 u2 rv2).2.1) ((sX5_copyFrom g u rv g2 u2 rv2).2.2) ++ (stW kk a2 g2 u2 rv2))) := hD
  have eS : sX4_keep q g u rv g2 u2 rv2 = sX4_keep_z_1 q g u rv g2 u2 rv2 (sX5_copyFrom g u rv g2 u2 rv2) := eS
  generalize sX5_copyFrom g u rv g2 u2 rv2 = z_1 at hP hD eS ⊢
  refine lv_aload_n hx hb dX4_keep_8 rfl (lv_at hl 0 rfl) ?_
  refine lv_iconst (v := 1) hx hb dX4_keep_9 (by decide) ?_
  refine r_put hx hb hts hown hK hP hD hS fl_X4_16 fw_4_1 0 rfl rfl rfl (Nat.le_of_ble_eq_true rfl) dX4_keep_10 (fun H locs hP hD hS => ?_)
  replace hP : va_P G vwCl ([(h, .inr (4, slF (a 0) (upd q 1 1)))] ++ (stW kk a z_1.1 z_1.2.1 z_1.2.2 ++ (stW kk a2 g2 u2 rv2))) H := hP
  replace hD : va_D A ([(h, .inr (4, slF (a 0) (upd q 1 1)))] ++ (stW kk a z_1.1 z_1.2.1 z_1.2.2 ++ (stW kk a2 g2 u2 rv2))) := hD
  exact fin_v hx hb hr hlocks hK (vP_eq (congrArg (fun z : (Nat → Int32) × (Nat → Int32) × (Nat → Int32) × (Nat → Nat → Int32) => ([(h, .inr (4, slF (a 0) z.1))] ++ (stW kk a z.2.1 z.2.2.1 z.2.2.2 ++ (stW kk a2 g2 u2 rv2)) : va_W)) eS.symm) hP) (vD_eq (congrArg (fun z : (Nat → Int32) × (Nat → Int32) × (Nat → Int32) × (Nat → Nat → Int32) => ([(h, .inr (4, slF (a 0) z.1))] ++ (stW kk a z.2.1 z.2.2.1 z.2.2.2 ++ (stW kk a2 g2 u2 rv2)) : va_W)) eS.symm) hD) hS dX4_keep_13
