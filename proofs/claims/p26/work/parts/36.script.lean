def sX7_isSo_z_1 (g4 : Nat → Int32) (u4 : Nat → Int32) (rv4 : Nat → Nat → Int32) (x : Int32) (k : Nat) (y : Int32) (z_1 : Int32 × (Nat → Nat → Int32)) : Int32 × (Nat → Nat → Int32) :=
  (if ((z_1.2 k) 9) = y then (1, z_1.2) else (0, z_1.2))
def sX7_isSo (g4 : Nat → Int32) (u4 : Nat → Int32) (rv4 : Nat → Nat → Int32) (x : Int32) (k : Nat) (y : Int32) : Int32 × (Nat → Nat → Int32) :=
  (if x = 6 then (if (y - y / 10 * 10) = 0 then (if (y / 10) < ((rv4 k) 6) then (0, rv4) else (1, rv4)) else (0, rv4)) else (if x = 7 then (sX7_isSo_z_1 g4 u4 rv4 x k y (sX5_planMinute g4 u4 rv4)) else (if x = 8 then (0, rv4) else (if x = 9 then (if (sX2_isWarm (rv4 k)) = 0 then (if y = 0 then (1, rv4) else (0, rv4)) else (if y = 1 then (1, rv4) else (0, rv4))) else (0, rv4)))))
set_option maxRecDepth 100000 in
set_option maxHeartbeats 4000000 in
theorem c_X7_isSo (l : Launch) (G : va_G) (kk : Nat → ClassId) (h : Nat) (ad : Nat → Nat → Nat) (g4 : Nat → Int32) (u4 : Nat → Int32) (rv4 : Nat → Nat → Int32) (x : Int32) (k : Nat) (y : Int32) (hk : k < 6) : CC l yX7_isSo cX7_isSo 4 (some .boolean) (rmO 3 74) [.ref h, .int x, .ref ((ad 4) (3 + k)), .int y] G kk ([(h, .inr (7, mrG ad))] ++ (stW kk (ad 4) g4 u4 rv4)) (QI G kk ([(h, .inr (7, mrG ad))] ++ (stW kk (ad 4) g4 u4 ((sX7_isSo g4 u4 rv4 x k y).2))) ((sX7_isSo g4 u4 rv4 x k y).1)) := by
  refine cc_start (by decide +kernel) (Nat.le_of_ble_eq_true rfl) ?_
  intro p e s m below meth c A ls hx hb hr hml hown hts hlocks hA hE hK hP hD hS hl
  have hown : s.vm.findClass RX7 = some m.cls := hown
  have hl : lv_has ls 4 [(0, .ref h), (1, .int x), (2, .ref ((ad 4) (3 + k))), (3, .int y)] := hl
  have eS : sX7_isSo g4 u4 rv4 x k y = sX7_isSo g4 u4 rv4 x k y := rfl
  refine lv_aload_n hx hb dX7_isSo_0 rfl (lv_at hl 2 rfl) ?_
  refine lv_ifnonnull (tgt := 6) hx hb dX7_isSo_1 (by decide) ?_
  refine lv_iload_n hx hb dX7_isSo_6 rfl (lv_at hl 1 rfl) ?_
  refine (Decidable.em (x = 6)).elim (fun c_7_0 => ?_) (fun c_7_0 => ?_)
  · have eS := eS.trans (if_pos c_7_0)
    refine lv_tableIn (tgt := 36) hx hb dX7_isSo_7 (by rw [c_7_0]; decide) (by rw [c_7_0]; decide) (by rw [c_7_0]; rfl) (by decide) ?_
    refine lv_iload_n hx hb dX7_isSo_36 rfl (lv_at hl 3 rfl) ?_
    refine lv_bipush (v := 10) hx hb dX7_isSo_37 (by decide) ?_
    refine lv_irem hx hb dX7_isSo_39 (by decide) ?_
    refine lv_if_ne (tgt := 58) hx hb dX7_isSo_40 (by decide) (fun c_40 => ?_) (fun c_40 => ?_)
    · have eS := eS.trans (if_neg c_40)
      refine lv_iconst (v := 0) hx hb dX7_isSo_58 (by decide) ?_
      exact fin_z hx hb hr hlocks hK (vP_eq (congrArg (fun z : Int32 × (Nat → Nat → Int32) => ([(h, .inr (7, mrG ad))] ++ (stW kk (ad 4) g4 u4 z.2) : va_W)) eS.symm) hP) (vD_eq (congrArg (fun z : Int32 × (Nat → Nat → Int32) => ([(h, .inr (7, mrG ad))] ++ (stW kk (ad 4) g4 u4 z.2) : va_W)) eS.symm) hD) hS (congrArg (fun z : Int32 × (Nat → Nat → Int32) => z.1) eS) rfl dX7_isSo_59
    · have eS := eS.trans (if_pos c_40)
      refine lv_aload_n hx hb dX7_isSo_43 rfl (lv_at hl 2 rfl) ?_
      refine r_getN (v := .int ((rv4 k) 6)) hE hx hb hts hown hK hP fn_X7_273 (1 + (3 + k)) (sk_get (m := 1) (n := 3 + k) (st_at hk) rfl) rfl dX7_isSo_44 ?_
      refine lv_iload_n hx hb dX7_isSo_47 rfl (lv_at hl 3 rfl) ?_
      refine lv_bipush (v := 10) hx hb dX7_isSo_48 (by decide) ?_
      refine lv_idiv hx hb dX7_isSo_50 (by decide) ?_
      refine lv_icmp_gt (tgt := 58) hx hb dX7_isSo_51 (by decide) (fun c_51 => ?_) (fun c_51 => ?_)
      · have eS := eS.trans (if_pos c_51)
        refine lv_iconst (v := 0) hx hb dX7_isSo_58 (by decide) ?_
        exact fin_z hx hb hr hlocks hK (vP_eq (congrArg (fun z : Int32 × (Nat → Nat → Int32) => ([(h, .inr (7, mrG ad))] ++ (stW kk (ad 4) g4 u4 z.2) : va_W)) eS.symm) hP) (vD_eq (congrArg (fun z : Int32 × (Nat → Nat → Int32) => ([(h, .inr (7, mrG ad))] ++ (stW kk (ad 4) g4 u4 z.2) : va_W)) eS.symm) hD) hS (congrArg (fun z : Int32 × (Nat → Nat → Int32) => z.1) eS) rfl dX7_isSo_59
      · have eS := eS.trans (if_neg c_51)
        refine lv_iconst (v := 1) hx hb dX7_isSo_54 (by decide) ?_
        refine lv_goto (tgt := 59) hx hb dX7_isSo_55 (by decide) ?_
        exact fin_z hx hb hr hlocks hK (vP_eq (congrArg (fun z : Int32 × (Nat → Nat → Int32) => ([(h, .inr (7, mrG ad))] ++ (stW kk (ad 4) g4 u4 z.2) : va_W)) eS.symm) hP) (vD_eq (congrArg (fun z : Int32 × (Nat → Nat → Int32) => ([(h, .inr (7, mrG ad))] ++ (stW kk (ad 4) g4 u4 z.2) : va_W)) eS.symm) hD) hS (congrArg (fun z : Int32 × (Nat → Nat → Int32) => z.1) eS) rfl dX7_isSo_59
  have eS := eS.trans (if_neg c_7_0)
  refine (Decidable.em (x = 7)).elim (fun c_7_1 => ?_) (fun c_7_1 => ?_)
  · have eS := eS.trans (if_pos c_7_1)
    refine lv_tableIn (tgt := 60) hx hb dX7_isSo_7 (by rw [c_7_1]; decide) (by rw [c_7_1]; decide) (by rw [c_7_1]; rfl) (by decide) ?_
    refine lv_aload_n hx hb dX7_isSo_60 rfl (lv_at hl 0 rfl) ?_
    refine r_get (v := .ref ((ad 4) 0)) hx hb hts hown hK hP fl_X7_26 0 rfl rfl dX7_isSo_61 ?_
    refine k_goI (k_runV (rest := []) (As := []) hx hb hml hown hts hK hP hD hS hA hE hl.1 (c_X5_planMinute l G kk (ad 4) g4 u4 rv4 ) vl_X7_149 rfl rfl rfl ⟨Nat.le_of_ble_eq_true rfl, Nat.le_of_ble_eq_true rfl, rfl, rfl⟩ (List.range' 1 9) (by decide +kernel) (skip_map (m := 1) (n := 0) (sg_Ce st_len) rfl) ⟨Nat.zero_le _, Nat.zero_le _⟩ rfl (Nat.le_of_ble_eq_true rfl) dX7_isSo_64) hP hD hS hA (List.range' 1 9) (skip_map (m := 1) (n := 0) (sg_Ce st_len) rfl) st_ads (fun H locs hP hD hS => ?_)
    replace hP : va_P G vwCl ([(h, .inr (7, mrG ad))] ++ (stW kk (ad 4) g4 u4 ((sX5_planMinute g4 u4 rv4).2))) H := vP_eq2 hP (skip_set (m := 1) (n := 0) (sg_Se st_len st_len) rfl)
    replace hD : va_D A ([(h, .inr (7, mrG ad))] ++ (stW kk (ad 4) g4 u4 ((sX5_planMinute g4 u4 rv4).2))) := vD_eq2 hD (skip_set (m := 1) (n := 0) (sg_Se st_len st_len) rfl)
    have eS : sX7_isSo g4 u4 rv4 x k y = sX7_isSo_z_1 g4 u4 rv4 x k y (sX5_planMinute g4 u4 rv4) := eS
    generalize sX5_planMinute g4 u4 rv4 = z_1 at hP hD eS ⊢
    refine lv_pop hx hb dX7_isSo_67 rfl ?_
    refine lv_aload_n hx hb dX7_isSo_68 rfl (lv_at hl 2 rfl) ?_
    refine r_getN (v := .int ((z_1.2 k) 9)) hE hx hb hts hown hK hP fn_X7_152 (1 + (3 + k)) (sk_get (m := 1) (n := 3 + k) (st_at hk) rfl) rfl dX7_isSo_69 ?_
    refine lv_iload_n hx hb dX7_isSo_72 rfl (lv_at hl 3 rfl) ?_
    refine lv_icmp_ne (tgt := 80) hx hb dX7_isSo_73 (by decide) (fun c_73 => ?_) (fun c_73 => ?_)
    · have eS := eS.trans (if_neg c_73)
      refine lv_iconst (v := 0) hx hb dX7_isSo_80 (by decide) ?_
      exact fin_z hx hb hr hlocks hK (vP_eq (congrArg (fun z : Int32 × (Nat → Nat → Int32) => ([(h, .inr (7, mrG ad))] ++ (stW kk (ad 4) g4 u4 z.2) : va_W)) eS.symm) hP) (vD_eq (congrArg (fun z : Int32 × (Nat → Nat → Int32) => ([(h, .inr (7, mrG ad))] ++ (stW kk (ad 4) g4 u4 z.2) : va_W)) eS.symm) hD) hS (congrArg (fun z : Int32 × (Nat → Nat → Int32) => z.1) eS) rfl dX7_isSo_81
    · have eS := eS.trans (if_pos c_73)
      refine lv_iconst (v := 1) hx hb dX7_isSo_76 (by decide) ?_
      refine lv_goto (tgt := 81) hx hb dX7_isSo_77 (by decide) ?_
      exact fin_z hx hb hr hlocks hK (vP_eq (congrArg (fun z : Int32 × (Nat → Nat → Int32) => ([(h, .inr (7, mrG ad))] ++ (stW kk (ad 4) g4 u4 z.2) : va_W)) eS.symm) hP) (vD_eq (congrArg (fun z : Int32 × (Nat → Nat → Int32) => ([(h, .inr (7, mrG ad))] ++ (stW kk (ad 4) g4 u4 z.2) : va_W)) eS.symm) hD) hS (congrArg (fun z : Int32 × (Nat → Nat → Int32) => z.1) eS) rfl dX7_isSo_81
  have eS := eS.trans (if_neg c_7_1)
  refine (Decidable.em (x = 8)).elim (fun c_7_2 => ?_) (fun c_7_2 => ?_)
  · have eS := eS.trans (if_pos c_7_2)
    refine lv_tableIn (tgt := 104) hx hb dX7_isSo_7 (by rw [c_7_2]; decide) (by rw [c_7_2]; decide) (by rw [c_7_2]; rfl) (by decide) ?_
    refine lv_iconst (v := 0) hx hb dX7_isSo_104 (by decide) ?_
    exact fin_z hx hb hr hlocks hK (vP_eq (congrArg (fun z : Int32 × (Nat → Nat → Int32) => ([(h, .inr (7, mrG ad))] ++ (stW kk (ad 4) g4 u4 z.2) : va_W)) eS.symm) hP) (vD_eq (congrArg (fun z : Int32 × (Nat → Nat → Int32) => ([(h, .inr (7, mrG ad))] ++ (stW kk (ad 4) g4 u4 z.2) : va_W)) eS.symm) hD) hS (congrArg (fun z : Int32 × (Nat → Nat → Int32) => z.1) eS) rfl dX7_isSo_105
  have eS := eS.trans (if_neg c_7_2)
  refine (Decidable.em (x = 9)).elim (fun c_7_3 => ?_) (fun c_7_3 => ?_)
  · have eS := eS.trans (if_pos c_7_3)
    refine lv_tableIn (tgt := 82) hx hb dX7_isSo_7 (by rw [c_7_3]; decide) (by rw [c_7_3]; decide) (by rw [c_7_3]; rfl) (by decide) ?_
    refine lv_iload_n hx hb dX7_isSo_82 rfl (lv_at hl 3 rfl) ?_
    refine lv_aload_n hx hb dX7_isSo_83 rfl (lv_at hl 2 rfl) ?_
    refine k_goI (k_runV (rest := [.int y]) (As := []) hx hb hml hown hts hK hP hD hS hA hE hl.1 (c_X2_isWarm l G kk ((ad 4) (3 + k)) (rv4 k) ) vl_X7_225 rfl rfl rfl ⟨Nat.le_of_ble_eq_true rfl, Nat.le_of_ble_eq_true rfl, rfl, rfl⟩ ([1 + (3 + k)]) (nd1 _) (mp_c (sk_get (m := 1) (n := 3 + k) (st_at hk) rfl) mp_nil) ⟨Nat.zero_le _, Nat.zero_le _⟩ rfl (Nat.le_of_ble_eq_true rfl) dX7_isSo_84) hP hD hS hA ([1 + (3 + k)]) (mp_c (sk_get (m := 1) (n := 3 + k) (st_at hk) rfl) mp_nil) ads1 (fun H locs hP hD hS => ?_)
    replace hP : va_P G vwCl ([(h, .inr (7, mrG ad))] ++ (stW kk (ad 4) g4 u4 rv4)) H := vP_eq2 hP (sm_same (mp_c (sk_get (m := 1) (n := 3 + k) (st_at hk) rfl) mp_nil))
    replace hD : va_D A ([(h, .inr (7, mrG ad))] ++ (stW kk (ad 4) g4 u4 rv4)) := vD_eq2 hD (sm_same (mp_c (sk_get (m := 1) (n := 3 + k) (st_at hk) rfl) mp_nil))
    refine lv_if_eq (tgt := 94) hx hb dX7_isSo_87 (by decide) (fun c_87 => ?_) (fun c_87 => ?_)
    · have eS := eS.trans (if_pos c_87)
      refine lv_iconst (v := 0) hx hb dX7_isSo_94 (by decide) ?_
      refine lv_icmp_ne (tgt := 102) hx hb dX7_isSo_95 (by decide) (fun c_95 => ?_) (fun c_95 => ?_)
      · have eS := eS.trans (if_neg c_95)
        refine lv_iconst (v := 0) hx hb dX7_isSo_102 (by decide) ?_
        exact fin_z hx hb hr hlocks hK (vP_eq (congrArg (fun z : Int32 × (Nat → Nat → Int32) => ([(h, .inr (7, mrG ad))] ++ (stW kk (ad 4) g4 u4 z.2) : va_W)) eS.symm) hP) (vD_eq (congrArg (fun z : Int32 × (Nat → Nat → Int32) => ([(h, .inr (7, mrG ad))] ++ (stW kk (ad 4) g4 u4 z.2) : va_W)) eS.symm) hD) hS (congrArg (fun z : Int32 × (Nat → Nat → Int32) => z.1) eS) rfl dX7_isSo_103
      · have eS := eS.trans (if_pos c_95)
        refine lv_iconst (v := 1) hx hb dX7_isSo_98 (by decide) ?_
        refine lv_goto (tgt := 103) hx hb dX7_isSo_99 (by decide) ?_
        exact fin_z hx hb hr hlocks hK (vP_eq (congrArg (fun z : Int32 × (Nat → Nat → Int32) => ([(h, .inr (7, mrG ad))] ++ (stW kk (ad 4) g4 u4 z.2) : va_W)) eS.symm) hP) (vD_eq (congrArg (fun z : Int32 × (Nat → Nat → Int32) => ([(h, .inr (7, mrG ad))] ++ (stW kk (ad 4) g4 u4 z.2) : va_W)) eS.symm) hD) hS (congrArg (fun z : Int32 × (Nat → Nat → Int32) => z.1) eS) rfl dX7_isSo_103
    · have eS := eS.trans (if_neg c_87)
      refine lv_iconst (v := 1) hx hb dX7_isSo_90 (by decide) ?_
      refine lv_goto (tgt := 95) hx hb dX7_isSo_91 (by decide) ?_
      refine lv_icmp_ne (tgt := 102) hx hb dX7_isSo_95 (by decide) (fun c_95 => ?_) (fun c_95 => ?_)
      · have eS := eS.trans (if_neg c_95)
        refine lv_iconst (v := 0) hx hb dX7_isSo_102 (by decide) ?_
        exact fin_z hx hb hr hlocks hK (vP_eq (congrArg (fun z : Int32 × (Nat → Nat → Int32) => ([(h, .inr (7, mrG ad))] ++ (stW kk (ad 4) g4 u4 z.2) : va_W)) eS.symm) hP) (vD_eq (congrArg (fun z : Int32 × (Nat → Nat → Int32) => ([(h, .inr (7, mrG ad))] ++ (stW kk (ad 4) g4 u4 z.2) : va_W)) eS.symm) hD) hS (congrArg (fun z : Int32 × (Nat → Nat → Int32) => z.1) eS) rfl dX7_isSo_103
      · have eS := eS.trans (if_pos c_95)
        refine lv_iconst (v := 1) hx hb dX7_isSo_98 (by decide) ?_
        refine lv_goto (tgt := 103) hx hb dX7_isSo_99 (by decide) ?_
        exact fin_z hx hb hr hlocks hK (vP_eq (congrArg (fun z : Int32 × (Nat → Nat → Int32) => ([(h, .inr (7, mrG ad))] ++ (stW kk (ad 4) g4 u4 z.2) : va_W)) eS.symm) hP) (vD_eq (congrArg (fun z : Int32 × (Nat → Nat → Int32) => ([(h, .inr (7, mrG ad))] ++ (stW kk (ad 4) g4 u4 z.2) : va_W)) eS.symm) hD) hS (congrArg (fun z : Int32 × (Nat → Nat → Int32) => z.1) eS) rfl dX7_isSo_103
  have eS := eS.trans (if_neg c_7_3)
  refine lv_tableOut (tgt := 104) hx hb dX7_isSo_7 (by have t0 := lv_neT (a := 6) c_7_0 (by decide); have t1 := lv_neT (a := 7) c_7_1 (by decide); have t2 := lv_neT (a := 8) c_7_2 (by decide); have t3 := lv_neT (a := 9) c_7_3 (by decide); omega) (by decide) ?_
  refine lv_iconst (v := 0) hx hb dX7_isSo_104 (by decide) ?_
  exact fin_z hx hb hr hlocks hK (vP_eq (congrArg (fun z : Int32 × (Nat → Nat → Int32) => ([(h, .inr (7, mrG ad))] ++ (stW kk (ad 4) g4 u4 z.2) : va_W)) eS.symm) hP) (vD_eq (congrArg (fun z : Int32 × (Nat → Nat → Int32) => ([(h, .inr (7, mrG ad))] ++ (stW kk (ad 4) g4 u4 z.2) : va_W)) eS.symm) hD) hS (congrArg (fun z : Int32 × (Nat → Nat → Int32) => z.1) eS) rfl dX7_isSo_105
def sX7_isSo0 (g4 : Nat → Int32) (u4 : Nat → Int32) (rv4 : Nat → Nat → Int32) (x : Int32) (y : Int32) : Int32 :=
  0
set_option maxRecDepth 100000 in
set_option maxHeartbeats 4000000 in
theorem c_X7_isSo0 (l : Launch) (G : va_G) (kk : Nat → ClassId) (h : Nat) (ad : Nat → Nat → Nat) (g4 : Nat → Int32) (u4 : Nat → Int32) (rv4 : Nat → Nat → Int32) (x : Int32) (y : Int32)  : CC l yX7_isSo cX7_isSo 4 (some .boolean) (rmO 0 0) [.ref h, .int x, .null, .int y] G kk ([(h, .inr (7, mrG ad))] ++ (stW kk (ad 4) g4 u4 rv4)) (QI G kk ([(h, .inr (7, mrG ad))] ++ (stW kk (ad 4) g4 u4 rv4)) (sX7_isSo0 g4 u4 rv4 x y)) := by
  refine cc_start (by decide +kernel) (Nat.le_of_ble_eq_true rfl) ?_
  intro p e s m below meth c A ls hx hb hr hml hown hts hlocks hA hE hK hP hD hS hl
  have hown : s.vm.findClass RX7 = some m.cls := hown
  have hl : lv_has ls 4 [(0, .ref h), (1, .int x), (2, .null), (3, .int y)] := hl
  have eS : sX7_isSo0 g4 u4 rv4 x y = sX7_isSo0 g4 u4 rv4 x y := rfl
  refine lv_aload_nN hx hb dX7_isSo_0 rfl (lv_at hl 2 rfl) ?_
  refine lv_ifnonnullN hx hb dX7_isSo_1 ?_
  refine lv_iconst (v := 0) hx hb dX7_isSo_4 (by decide) ?_
  exact fin_z hx hb hr hlocks hK hP hD hS eS rfl dX7_isSo_5
