theorem ndRR (i : Nat) : va_nd [3 + i, 9 + (3 + i)] = true := by simp [va_nd]
theorem cf_at1 {kk : Nat → ClassId} {a : Nat → Nat} {g u : Nat → Int32} {rv : Nat → Nat → Int32} {w2 : va_W} {i : Nat} (hi : i < 6) : (stW kk a g u rv ++ w2)[3 + i]? = some (a (3 + i), .inr (2, rmF (rv i))) := by
  rw [List.getElem?_append_left (by rw [st_len]; omega)]
  exact st_at hi
theorem cf_at2 {kk : Nat → ClassId} {a a2 : Nat → Nat} {g u g2 u2 : Nat → Int32} {rv rv2 : Nat → Nat → Int32} {i : Nat} (hi : i < 6) : (stW kk a g u rv ++ stW kk a2 g2 u2 rv2)[9 + (3 + i)]? = some (a2 (3 + i), .inr (2, rmF (rv2 i))) := by
  rw [List.getElem?_append_right (by rw [st_len]; omega), st_len, Nat.add_sub_cancel_left]
  exact st_at hi
theorem cf_eq {kk : Nat → ClassId} {a a2 : Nat → Nat} {g u g2 u2 : Nat → Int32} {rv rv2 : Nat → Nat → Int32} {i : Nat} (hi : i < 6) (r : Nat → Int32) : setMany (stW kk a g u rv ++ stW kk a2 g2 u2 rv2) [3 + i, 9 + (3 + i)] [(a (3 + i), .inr (2, rmF r)), (a2 (3 + i), .inr (2, rmF (rv2 i)))] = stW kk a g u (updR rv i r) ++ stW kk a2 g2 u2 rv2 := by
  show (((stW kk a g u rv ++ stW kk a2 g2 u2 rv2).set (3 + i) _).set (9 + (3 + i)) _) = _
  rw [List.set_append_left _ _ (by rw [st_len]; omega), st_put hi r rfl, List.set_append_right _ _ (by rw [st_len]; omega), st_len, Nat.add_sub_cancel_left, st_same hi]
def lp_X5_copyFrom_13 (g : Nat → Int32) (u : Nat → Int32) (rv : Nat → Nat → Int32) (g2 : Nat → Int32) (u2 : Nat → Int32) (rv2 : Nat → Nat → Int32) (z_1 : (Nat → Int32)) : Nat → Nat → (Nat → Nat → Int32) → (Nat → Int32) × (Nat → Int32) × (Nat → Nat → Int32)
  | 0, i, rv1 => ((upd (upd (upd (upd (upd (upd (upd (upd (upd g 1 (g2 1)) 2 (g2 2)) 3 (g2 3)) 4 (g2 4)) 5 (g2 5)) 6 (g2 6)) 7 (g2 7)) 8 (g2 8)) 9 (g2 9)), z_1, rv1)
  | d + 1, i, rv1 => ((fun (z_2 : (Nat → Int32)) => (lp_X5_copyFrom_13 g u rv g2 u2 rv2 z_1 d (i + 1) (updR rv1 i z_2))) (sX2_copyFrom (rv1 i) (rv2 i)))
def sX5_copyFrom_z_1 (g : Nat → Int32) (u : Nat → Int32) (rv : Nat → Nat → Int32) (g2 : Nat → Int32) (u2 : Nat → Int32) (rv2 : Nat → Nat → Int32) (z_1 : (Nat → Int32)) : (Nat → Int32) × (Nat → Int32) × (Nat → Nat → Int32) :=
  (lp_X5_copyFrom_13 g u rv g2 u2 rv2 z_1 6 0 rv)
def sX5_copyFrom (g : Nat → Int32) (u : Nat → Int32) (rv : Nat → Nat → Int32) (g2 : Nat → Int32) (u2 : Nat → Int32) (rv2 : Nat → Nat → Int32) : (Nat → Int32) × (Nat → Int32) × (Nat → Nat → Int32) :=
  (sX5_copyFrom_z_1 g u rv g2 u2 rv2 (sX3_copyFrom u u2))
set_option maxRecDepth 100000 in
set_option maxHeartbeats 4000000 in
theorem c_X5_copyFrom (l : Launch) (G : va_G) (kk : Nat → ClassId) (a : Nat → Nat) (a2 : Nat → Nat) (g : Nat → Int32) (u : Nat → Int32) (rv : Nat → Nat → Int32) (g2 : Nat → Int32) (u2 : Nat → Int32) (rv2 : Nat → Nat → Int32) (hzb : ∀ i, i < 6 → zb (rv2 i 5)) : CC l yX5_copyFrom cX5_copyFrom 3 none (rmO 1 21) [.ref (a 0), .ref (a2 0)] G kk (stW kk a g u rv ++ (stW kk a2 g2 u2 rv2)) (QV G kk (stW kk a ((sX5_copyFrom g u rv g2 u2 rv2).1) ((sX5_copyFrom g u rv g2 u2 rv2).2.1) ((sX5_copyFrom g u rv g2 u2 rv2).2.2) ++ (stW kk a2 g2 u2 rv2))) := by
  refine cc_start (by decide +kernel) (Nat.le_of_ble_eq_true rfl) ?_
  intro p e s m below meth c A ls hx hb hr hml hown hts hlocks hA hE hK hP hD hS hl
  have hown : s.vm.findClass RX5 = some m.cls := hown
  have hl : lv_has ls 3 [(0, .ref (a 0)), (1, .ref (a2 0))] := hl
  have eS : sX5_copyFrom g u rv g2 u2 rv2 = sX5_copyFrom g u rv g2 u2 rv2 := rfl
  refine lv_aload_n hx hb dX5_copyFrom_0 rfl (lv_at hl 0 rfl) ?_
  refine r_get (v := .ref (a 1)) hx hb hts hown hK hP fl_X5_12 0 rfl rfl dX5_copyFrom_1 ?_
  refine lv_aload_n hx hb dX5_copyFrom_4 rfl (lv_at hl 1 rfl) ?_
  refine r_get (v := .ref (a2 1)) hx hb hts hown hK hP fl_X5_12 9 rfl rfl dX5_copyFrom_5 ?_
  refine k_goV (k_runV (rest := []) (As := [.ref (a2 1)]) hx hb hml hown hts hK hP hD hS hA hE hl.1 (c_X3_copyFrom l G kk (a 1) u (a2 1) u2 ) vl_X5_27 rfl rfl rfl ⟨Nat.le_of_ble_eq_true rfl, Nat.le_of_ble_eq_true rfl, rfl, rfl⟩ [1, 10] rfl rfl ⟨Nat.zero_le _, Nat.zero_le _⟩ rfl (Nat.le_of_ble_eq_true rfl) dX5_copyFrom_8) hP hD hS hA [1, 10] rfl ads2 (fun H locs hP hD hS => ?_)
  replace hP : va_P G vwCl (stW kk a g (sX3_copyFrom u u2) rv ++ (stW kk a2 g2 u2 rv2)) H := hP
  replace hD : va_D A (stW kk a g (sX3_copyFrom u u2) rv ++ (stW kk a2 g2 u2 rv2)) := hD
  have eS : sX5_copyFrom g u rv g2 u2 rv2 = sX5_copyFrom_z_1 g u rv g2 u2 rv2 (sX3_copyFrom u u2) := eS
  generalize sX3_copyFrom u u2 = z_1 at hP hD eS ⊢
  refine lv_iconst (v := 0) hx hb dX5_copyFrom_11 (by decide) ?_
  refine lv_istore_n (lv' := [(2, .int 0), (0, .ref (a 0)), (1, .ref (a2 0))]) hx hb dX5_copyFrom_12 rfl hl (by decide) rfl (fun ls hl => ?_)
  have L_3 : ∀ (d : Nat) (i : Nat) (rv1 : Nat → Nat → Int32) (hd : i + d = 6) (eS : sX5_copyFrom g u rv g2 u2 rv2 = lp_X5_copyFrom_13 g u rv g2 u2 rv2 z_1 d i rv1) (H : Heap) (locs : List Loc) (ls : Array Slot) (hP : va_P G vwCl (stW kk a g z_1 rv1 ++ (stW kk a2 g2 u2 rv2)) H) (hD : va_D A (stW kk a g z_1 rv1 ++ (stW kk a2 g2 u2 rv2))) (hS : va_S A s.heap H locs) (hl : lv_has ls 3 [(0, .ref (a 0)), (1, .ref (a2 0)), (2, .int (nI i))]), GO p l e (rmO 1 21) s m ([.ref (a 0), .ref (a2 0)] : List Value).toArray below meth c A (QV G kk (stW kk a ((sX5_copyFrom g u rv g2 u2 rv2).1) ((sX5_copyFrom g u rv g2 u2 rv2).2.1) ((sX5_copyFrom g u rv g2 u2 rv2).2.2) ++ (stW kk a2 g2 u2 rv2))) H locs (F0 m 13 ls []) := by
    intro d
    induction d with
    | zero =>
      intro i rv1 hd eS H locs ls hP hD hS hl
      refine lv_iload_n hx hb dX5_copyFrom_13 rfl (lv_at hl 2 rfl) ?_
      refine lv_aload_n hx hb dX5_copyFrom_14 rfl (lv_at hl 0 rfl) ?_
      refine r_get (v := .ref (a 2)) hx hb hts hown hK hP fl_X5_20 0 rfl rfl dX5_copyFrom_15 ?_
      refine r_alen (t0 := 3) hx hb hK hP 2 rfl rfl dX5_copyFrom_18 ?_
      refine lv_icmp_ge (tgt := 52) hx hb dX5_copyFrom_19 (by decide) (fun c_19 => ?_) (fun c_19 => absurd (nI_le (a := 6) (b := i) (by omega) (by omega)) c_19)
      refine lv_aload_n hx hb dX5_copyFrom_52 rfl (lv_at hl 0 rfl) ?_
      refine lv_aload_n hx hb dX5_copyFrom_53 rfl (lv_at hl 1 rfl) ?_
      refine r_get (v := .int (g2 1)) hx hb hts hown hK hP fl_X5_34 9 rfl rfl dX5_copyFrom_54 ?_
      refine r_put hx hb hts hown hK hP hD hS fl_X5_34 fw_5_2 0 rfl rfl rfl (Nat.le_of_ble_eq_true rfl) dX5_copyFrom_57 (fun H locs hP hD hS => ?_)
      replace hP : va_P G vwCl (stW kk a (upd g 1 (g2 1)) z_1 rv1 ++ (stW kk a2 g2 u2 rv2)) H := hP
      replace hD : va_D A (stW kk a (upd g 1 (g2 1)) z_1 rv1 ++ (stW kk a2 g2 u2 rv2)) := hD
      refine lv_aload_n hx hb dX5_copyFrom_60 rfl (lv_at hl 0 rfl) ?_
      refine lv_aload_n hx hb dX5_copyFrom_61 rfl (lv_at hl 1 rfl) ?_
      refine r_get (v := .int (g2 2)) hx hb hts hown hK hP fl_X5_38 9 rfl rfl dX5_copyFrom_62 ?_
      refine r_put hx hb hts hown hK hP hD hS fl_X5_38 fw_5_3 0 rfl rfl rfl (Nat.le_of_ble_eq_true rfl) dX5_copyFrom_65 (fun H locs hP hD hS => ?_)
      replace hP : va_P G vwCl (stW kk a (upd (upd g 1 (g2 1)) 2 (g2 2)) z_1 rv1 ++ (stW kk a2 g2 u2 rv2)) H := hP
      replace hD : va_D A (stW kk a (upd (upd g 1 (g2 1)) 2 (g2 2)) z_1 rv1 ++ (stW kk a2 g2 u2 rv2)) := hD
      refine lv_aload_n hx hb dX5_copyFrom_68 rfl (lv_at hl 0 rfl) ?_
      refine lv_aload_n hx hb dX5_copyFrom_69 rfl (lv_at hl 1 rfl) ?_
      refine r_get (v := .int (g2 3)) hx hb hts hown hK hP fl_X5_41 9 rfl rfl dX5_copyFrom_70 ?_
      refine r_put hx hb hts hown hK hP hD hS fl_X5_41 fw_5_4 0 rfl rfl rfl (Nat.le_of_ble_eq_true rfl) dX5_copyFrom_73 (fun H locs hP hD hS => ?_)
      replace hP : va_P G vwCl (stW kk a (upd (upd (upd g 1 (g2 1)) 2 (g2 2)) 3 (g2 3)) z_1 rv1 ++ (stW kk a2 g2 u2 rv2)) H := hP
      replace hD : va_D A (stW kk a (upd (upd (upd g 1 (g2 1)) 2 (g2 2)) 3 (g2 3)) z_1 rv1 ++ (stW kk a2 g2 u2 rv2)) := hD
      refine lv_aload_n hx hb dX5_copyFrom_76 rfl (lv_at hl 0 rfl) ?_
      refine lv_aload_n hx hb dX5_copyFrom_77 rfl (lv_at hl 1 rfl) ?_
      refine r_get (v := .int (g2 4)) hx hb hts hown hK hP fl_X5_44 9 rfl rfl dX5_copyFrom_78 ?_
      refine r_put hx hb hts hown hK hP hD hS fl_X5_44 fw_5_5 0 rfl rfl rfl (Nat.le_of_ble_eq_true rfl) dX5_copyFrom_81 (fun H locs hP hD hS => ?_)
      replace hP : va_P G vwCl (stW kk a (upd (upd (upd (upd g 1 (g2 1)) 2 (g2 2)) 3 (g2 3)) 4 (g2 4)) z_1 rv1 ++ (stW kk a2 g2 u2 rv2)) H := hP
      replace hD : va_D A (stW kk a (upd (upd (upd (upd g 1 (g2 1)) 2 (g2 2)) 3 (g2 3)) 4 (g2 4)) z_1 rv1 ++ (stW kk a2 g2 u2 rv2)) := hD
      refine lv_aload_n hx hb dX5_copyFrom_84 rfl (lv_at hl 0 rfl) ?_
      refine lv_aload_n hx hb dX5_copyFrom_85 rfl (lv_at hl 1 rfl) ?_
      refine r_get (v := .int (g2 5)) hx hb hts hown hK hP fl_X5_47 9 rfl rfl dX5_copyFrom_86 ?_
      refine r_put hx hb hts hown hK hP hD hS fl_X5_47 fw_5_6 0 rfl rfl rfl (Nat.le_of_ble_eq_true rfl) dX5_copyFrom_89 (fun H locs hP hD hS => ?_)
      replace hP : va_P G vwCl (stW kk a (upd (upd (upd (upd (upd g 1 (g2 1)) 2 (g2 2)) 3 (g2 3)) 4 (g2 4)) 5 (g2 5)) z_1 rv1 ++ (stW kk a2 g2 u2 rv2)) H := hP
      replace hD : va_D A (stW kk a (upd (upd (upd (upd (upd g 1 (g2 1)) 2 (g2 2)) 3 (g2 3)) 4 (g2 4)) 5 (g2 5)) z_1 rv1 ++ (stW kk a2 g2 u2 rv2)) := hD
      refine lv_aload_n hx hb dX5_copyFrom_92 rfl (lv_at hl 0 rfl) ?_
      refine lv_aload_n hx hb dX5_copyFrom_93 rfl (lv_at hl 1 rfl) ?_
      refine r_get (v := .int (g2 6)) hx hb hts hown hK hP fl_X5_50 9 rfl rfl dX5_copyFrom_94 ?_
      refine r_put hx hb hts hown hK hP hD hS fl_X5_50 fw_5_7 0 rfl rfl rfl (Nat.le_of_ble_eq_true rfl) dX5_copyFrom_97 (fun H locs hP hD hS => ?_)
      replace hP : va_P G vwCl (stW kk a (upd (upd (upd (upd (upd (upd g 1 (g2 1)) 2 (g2 2)) 3 (g2 3)) 4 (g2 4)) 5 (g2 5)) 6 (g2 6)) z_1 rv1 ++ (stW kk a2 g2 u2 rv2)) H := hP
      replace hD : va_D A (stW kk a (upd (upd (upd (upd (upd (upd g 1 (g2 1)) 2 (g2 2)) 3 (g2 3)) 4 (g2 4)) 5 (g2 5)) 6 (g2 6)) z_1 rv1 ++ (stW kk a2 g2 u2 rv2)) := hD
      refine lv_aload_n hx hb dX5_copyFrom_100 rfl (lv_at hl 0 rfl) ?_
      refine lv_aload_n hx hb dX5_copyFrom_101 rfl (lv_at hl 1 rfl) ?_
      refine r_get (v := .int (g2 7)) hx hb hts hown hK hP fl_X5_53 9 rfl rfl dX5_copyFrom_102 ?_
      refine r_put hx hb hts hown hK hP hD hS fl_X5_53 fw_5_8 0 rfl rfl rfl (Nat.le_of_ble_eq_true rfl) dX5_copyFrom_105 (fun H locs hP hD hS => ?_)
      replace hP : va_P G vwCl (stW kk a (upd (upd (upd (upd (upd (upd (upd g 1 (g2 1)) 2 (g2 2)) 3 (g2 3)) 4 (g2 4)) 5 (g2 5)) 6 (g2 6)) 7 (g2 7)) z_1 rv1 ++ (stW kk a2 g2 u2 rv2)) H := hP
      replace hD : va_D A (stW kk a (upd (upd (upd (upd (upd (upd (upd g 1 (g2 1)) 2 (g2 2)) 3 (g2 3)) 4 (g2 4)) 5 (g2 5)) 6 (g2 6)) 7 (g2 7)) z_1 rv1 ++ (stW kk a2 g2 u2 rv2)) := hD
      refine lv_aload_n hx hb dX5_copyFrom_108 rfl (lv_at hl 0 rfl) ?_
      refine lv_aload_n hx hb dX5_copyFrom_109 rfl (lv_at hl 1 rfl) ?_
      refine r_get (v := .int (g2 8)) hx hb hts hown hK hP fl_X5_56 9 rfl rfl dX5_copyFrom_110 ?_
      refine r_put hx hb hts hown hK hP hD hS fl_X5_56 fw_5_9 0 rfl rfl rfl (Nat.le_of_ble_eq_true rfl) dX5_copyFrom_113 (fun H locs hP hD hS => ?_)
      replace hP : va_P G vwCl (stW kk a (upd (upd (upd (upd (upd (upd (upd (upd g 1 (g2 1)) 2 (g2 2)) 3 (g2 3)) 4 (g2 4)) 5 (g2 5)) 6 (g2 6)) 7 (g2 7)) 8 (g2 8)) z_1 rv1 ++ (stW kk a2 g2 u2 rv2)) H := hP
      replace hD : va_D A (stW kk a (upd (upd (upd (upd (upd (upd (upd (upd g 1 (g2 1)) 2 (g2 2)) 3 (g2 3)) 4 (g2 4)) 5 (g2 5)) 6 (g2 6)) 7 (g2 7)) 8 (g2 8)) z_1 rv1 ++ (stW kk a2 g2 u2 rv2)) := hD
      refine lv_aload_n hx hb dX5_copyFrom_116 rfl (lv_at hl 0 rfl) ?_
      refine lv_aload_n hx hb dX5_copyFrom_117 rfl (lv_at hl 1 rfl) ?_
      refine r_get (v := .int (g2 9)) hx hb hts hown hK hP fl_X5_59 9 rfl rfl dX5_copyFrom_118 ?_
      refine r_put hx hb hts hown hK hP hD hS fl_X5_59 fw_5_10 0 rfl rfl rfl (Nat.le_of_ble_eq_true rfl) dX5_copyFrom_121 (fun H locs hP hD hS => ?_)
      replace hP : va_P G vwCl (stW kk a (upd (upd (upd (upd (upd (upd (upd (upd (upd g 1 (g2 1)) 2 (g2 2)) 3 (g2 3)) 4 (g2 4)) 5 (g2 5)) 6 (g2 6)) 7 (g2 7)) 8 (g2 8)) 9 (g2 9)) z_1 rv1 ++ (stW kk a2 g2 u2 rv2)) H := hP
      replace hD : va_D A (stW kk a (upd (upd (upd (upd (upd (upd (upd (upd (upd g 1 (g2 1)) 2 (g2 2)) 3 (g2 3)) 4 (g2 4)) 5 (g2 5)) 6 (g2 6)) 7 (g2 7)) 8 (g2 8)) 9 (g2 9)) z_1 rv1 ++ (stW kk a2 g2 u2 rv2)) := hD
      exact fin_v hx hb hr hlocks hK (vP_eq (congrArg (fun z : (Nat → Int32) × (Nat → Int32) × (Nat → Nat → Int32) => (stW kk a z.1 z.2.1 z.2.2 ++ (stW kk a2 g2 u2 rv2) : va_W)) eS.symm) hP) (vD_eq (congrArg (fun z : (Nat → Int32) × (Nat → Int32) × (Nat → Nat → Int32) => (stW kk a z.1 z.2.1 z.2.2 ++ (stW kk a2 g2 u2 rv2) : va_W)) eS.symm) hD) hS dX5_copyFrom_124
    | succ d ih =>
      intro i rv1 hd eS H locs ls hP hD hS hl
      have hi6 : i < 6 := by omega
      refine lv_iload_n hx hb dX5_copyFrom_13 rfl (lv_at hl 2 rfl) ?_
      refine lv_aload_n hx hb dX5_copyFrom_14 rfl (lv_at hl 0 rfl) ?_
      refine r_get (v := .ref (a 2)) hx hb hts hown hK hP fl_X5_20 0 rfl rfl dX5_copyFrom_15 ?_
      refine r_alen (t0 := 3) hx hb hK hP 2 rfl rfl dX5_copyFrom_18 ?_
      refine lv_icmp_ge (tgt := 52) hx hb dX5_copyFrom_19 (by decide) (fun c_19 => absurd c_19 (nI_ge (a := i) (b := 6) (by omega) (by omega))) (fun c_19 => ?_)
      refine lv_iload_n hx hb dX5_copyFrom_22 rfl (lv_at hl 2 rfl) ?_
      refine lv_aload_n hx hb dX5_copyFrom_23 rfl (lv_at hl 1 rfl) ?_
      refine r_get (v := .ref (a2 2)) hx hb hts hown hK hP fl_X5_20 9 rfl rfl dX5_copyFrom_24 ?_
      refine r_alen (t0 := 3) hx hb hK hP 11 rfl rfl dX5_copyFrom_27 ?_
      refine lv_icmp_ge (tgt := 52) hx hb dX5_copyFrom_28 (by decide) (fun c_28 => absurd c_28 (nI_ge (a := i) (b := 6) (by omega) (by omega))) (fun c_28 => ?_)
      refine lv_aload_n hx hb dX5_copyFrom_31 rfl (lv_at hl 0 rfl) ?_
      refine r_get (v := .ref (a 2)) hx hb hts hown hK hP fl_X5_20 0 rfl rfl dX5_copyFrom_32 ?_
      refine lv_iload_n hx hb dX5_copyFrom_35 rfl (lv_at hl 2 rfl) ?_
      refine r_aald hx hb hK hP 2 3 rfl rfl i (a (3 + i)) rfl (by omega) (by decide) rfl dX5_copyFrom_36 ?_
      refine lv_aload_n hx hb dX5_copyFrom_37 rfl (lv_at hl 1 rfl) ?_
      refine r_get (v := .ref (a2 2)) hx hb hts hown hK hP fl_X5_20 9 rfl rfl dX5_copyFrom_38 ?_
      refine lv_iload_n hx hb dX5_copyFrom_41 rfl (lv_at hl 2 rfl) ?_
      refine r_aald hx hb hK hP 11 3 rfl rfl i (a2 (3 + i)) rfl (by omega) (by decide) rfl dX5_copyFrom_42 ?_
      refine k_goV (k_runV (rest := []) (As := [.ref (a2 (3 + i))]) hx hb hml hown hts hK hP hD hS hA hE hl.1 (c_X2_copyFrom l G kk (a (3 + i)) (rv1 i) (a2 (3 + i)) (rv2 i) (hzb i hi6)) vl_X5_31 rfl rfl rfl ⟨Nat.le_of_ble_eq_true rfl, Nat.le_of_ble_eq_true rfl, rfl, rfl⟩ [3 + i, 9 + (3 + i)] (ndRR _) (map2 (cf_at1 hi6) (cf_at2 hi6)) ⟨Nat.zero_le _, Nat.zero_le _⟩ rfl (Nat.le_of_ble_eq_true rfl) dX5_copyFrom_43) hP hD hS hA [3 + i, 9 + (3 + i)] (map2 (cf_at1 hi6) (cf_at2 hi6)) ads2 (fun H locs hP hD hS => ?_)
      replace hP : va_P G vwCl (stW kk a g z_1 (updR rv1 i (sX2_copyFrom (rv1 i) (rv2 i))) ++ (stW kk a2 g2 u2 rv2)) H := vP_eq (cf_eq hi6 _) hP
      replace hD : va_D A (stW kk a g z_1 (updR rv1 i (sX2_copyFrom (rv1 i) (rv2 i))) ++ (stW kk a2 g2 u2 rv2)) := vD_eq (cf_eq hi6 _) hD
      have eS : sX5_copyFrom g u rv g2 u2 rv2 = (fun (z_2 : (Nat → Int32)) => (lp_X5_copyFrom_13 g u rv g2 u2 rv2 z_1 d (i + 1) (updR rv1 i z_2))) (sX2_copyFrom (rv1 i) (rv2 i)) := eS
      generalize sX2_copyFrom (rv1 i) (rv2 i) = z_2 at hP hD eS ⊢
      refine lv_iinc (v := (nI (i + 1))) (lv' := [(2, .int (nI (i + 1))), (0, .ref (a 0)), (1, .ref (a2 0))]) hx hb dX5_copyFrom_46 hl (k := 2) rfl (nI_add i 1) (by decide) rfl (fun ls hl => ?_)
      refine lv_goto (tgt := 13) hx hb dX5_copyFrom_49 (by decide) ?_
      exact ih (i + 1) (updR rv1 i z_2) (by omega) eS _ _ ls hP hD hS (lv_sub hl [1, 2, 0] rfl)
  exact L_3 6 0 rv (Nat.zero_add _) eS _ _ ls hP hD hS (lv_sub hl [1, 2, 0] rfl)
