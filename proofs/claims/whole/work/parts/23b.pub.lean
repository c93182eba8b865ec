theorem ab_1 {w : Int32} (h : w = nI w.toNatClampNeg) (h1 : 3 ≤ w) (h2 : ¬ w = 3) : w - 1 = nI (w.toNatClampNeg - 1) := by
  rw [h]
  have h3 : 1 ≤ w.toNatClampNeg := by
    rcases Nat.lt_or_ge w.toNatClampNeg 1 with q | q
    · have : w.toNatClampNeg = 0 := by omega
      rw [this] at h
      rw [h] at h1
      exact absurd h1 (by decide)
    · exact q
  have e : (nI w.toNatClampNeg).toNatClampNeg = w.toNatClampNeg := by rw [← h]
  rw [e]
  exact pk_sub h3
def sX8_about (q : Nat → Int32) (tx : Nat → Int32) (f : Nat → Int32) (ft : Nat → Int32) (dy : Nat → Int32) (kp : Nat → Int32) (ik : Nat → Int32) (jb : Nat → Int32) (w : Int32) : Int32 × (Nat → Int32) :=
  (if (sX8_in (w.toInt64) 0 10) = 0 then (0, (upd q 0 1)) else (if 3 ≤ w then (if w = 3 then ((sX8_minutesLeft f), (upd q 0 0)) else ((f (w.toNatClampNeg - 1)), (upd q 0 0))) else ((f w.toNatClampNeg), (upd q 0 0))))
set_option maxRecDepth 100000 in
set_option maxHeartbeats 4000000 in
theorem c_X8_about (l : Launch) (G : va_G) (kk : Nat → ClassId) (h : Nat) (b : Nat → Nat) (q : Nat → Int32) (tx : Nat → Int32) (f : Nat → Int32) (ft : Nat → Int32) (dy : Nat → Int32) (kp : Nat → Int32) (ik : Nat → Int32) (jb : Nat → Int32) (w : Int32)  : CC l yX8_about cX8_about 2 (some .int) (rmO 1 25) [.ref h, .int w] G kk ([(h, .inr (8, moF b q)), ((b 1), .inl (kk 0, 120, .inl tx)), ((b 2), .inl (kk 0, 64, .inl f)), ((b 3), .inl (kk 0, 64, .inl ft)), ((b 4), .inl (kk 0, 896, .inl dy)), ((b 5), .inl (kk 0, 128, .inl kp)), ((b 6), .inl (kk 2, 2, .inl ik)), ((b 7), .inl (kk 0, 6, .inl jb))]) (QI G kk ([(h, .inr (8, moF b ((sX8_about q tx f ft dy kp ik jb w).2))), ((b 1), .inl (kk 0, 120, .inl tx)), ((b 2), .inl (kk 0, 64, .inl f)), ((b 3), .inl (kk 0, 64, .inl ft)), ((b 4), .inl (kk 0, 896, .inl dy)), ((b 5), .inl (kk 0, 128, .inl kp)), ((b 6), .inl (kk 2, 2, .inl ik)), ((b 7), .inl (kk 0, 6, .inl jb))]) ((sX8_about q tx f ft dy kp ik jb w).1)) := by
  refine cc_start (by decide +kernel) (Nat.le_of_ble_eq_true rfl) ?_
  intro p e s m below meth c A ls hx hb hr hml hown hts hlocks hA hE hK hP hD hS hl
  have hown : s.vm.findClass RX8 = some m.cls := hown
  have hl : lv_has ls 2 [(0, .ref h), (1, .int w)] := hl
  have eS : sX8_about q tx f ft dy kp ik jb w = sX8_about q tx f ft dy kp ik jb w := rfl
  refine lv_aload_n hx hb dX8_about_0 rfl (lv_at hl 0 rfl) ?_
  refine lv_iload_n hx hb dX8_about_1 rfl (lv_at hl 1 rfl) ?_
  refine lv_i2l (v := (w.toInt64)) hx hb dX8_about_2 (by first | rfl | decide) ?_
  refine lv_lconst (v := 0) hx hb dX8_about_3 rfl ?_
  refine lv_ldc2 (v := 10) hx hb hown (hts _ kl_X8_182) dX8_about_4 ?_
  refine k_goI (k_runS (rest := [.ref h]) (As := [.long (w.toInt64), .long 0, .long 10]) hx hb hml hown hts hK hP hD hS hA hE hl.1 (c_X8_in l G kk (w.toInt64) 0 10 ) sl_X8_40 ⟨Nat.le_of_ble_eq_true rfl, Nat.le_of_ble_eq_true rfl, rfl, rfl⟩ [] rfl rfl ⟨Nat.zero_le _, Nat.zero_le _⟩ rfl (Nat.le_of_ble_eq_true rfl) dX8_about_7) hP hD hS hA [] rfl ads0 (fun H locs hP hD hS => ?_)
  replace hP : va_P G vwCl ([(h, .inr (8, moF b q)), ((b 1), .inl (kk 0, 120, .inl tx)), ((b 2), .inl (kk 0, 64, .inl f)), ((b 3), .inl (kk 0, 64, .inl ft)), ((b 4), .inl (kk 0, 896, .inl dy)), ((b 5), .inl (kk 0, 128, .inl kp)), ((b 6), .inl (kk 2, 2, .inl ik)), ((b 7), .inl (kk 0, 6, .inl jb))]) H := hP
  replace hD : va_D A ([(h, .inr (8, moF b q)), ((b 1), .inl (kk 0, 120, .inl tx)), ((b 2), .inl (kk 0, 64, .inl f)), ((b 3), .inl (kk 0, 64, .inl ft)), ((b 4), .inl (kk 0, 896, .inl dy)), ((b 5), .inl (kk 0, 128, .inl kp)), ((b 6), .inl (kk 2, 2, .inl ik)), ((b 7), .inl (kk 0, 6, .inl jb))]) := hD
  refine lv_if_eq (tgt := 17) hx hb dX8_about_10 (by decide) (fun c_10 => ?_) (fun c_10 => ?_)
  · have eS := eS.trans (if_pos c_10)
    refine lv_iconst (v := 1) hx hb dX8_about_17 (by decide) ?_
    refine k_goI (k_runV (rest := []) (As := [.int 1]) hx hb hml hown hts hK hP hD hS hA hE hl.1 (c_X8_refused9 l G kk h b q 1) vl_X8_119 rfl rfl rfl ⟨Nat.le_of_ble_eq_true rfl, Nat.le_of_ble_eq_true rfl, rfl, rfl⟩ [0] rfl rfl ⟨Nat.zero_le _, Nat.zero_le _⟩ rfl (Nat.le_of_ble_eq_true rfl) dX8_about_18) hP hD hS hA [0] rfl ads1 (fun H locs hP hD hS => ?_)
    replace hP : va_P G vwCl ([(h, .inr (8, moF b (upd q 0 1))), ((b 1), .inl (kk 0, 120, .inl tx)), ((b 2), .inl (kk 0, 64, .inl f)), ((b 3), .inl (kk 0, 64, .inl ft)), ((b 4), .inl (kk 0, 896, .inl dy)), ((b 5), .inl (kk 0, 128, .inl kp)), ((b 6), .inl (kk 2, 2, .inl ik)), ((b 7), .inl (kk 0, 6, .inl jb))]) H := hP
    replace hD : va_D A ([(h, .inr (8, moF b (upd q 0 1))), ((b 1), .inl (kk 0, 120, .inl tx)), ((b 2), .inl (kk 0, 64, .inl f)), ((b 3), .inl (kk 0, 64, .inl ft)), ((b 4), .inl (kk 0, 896, .inl dy)), ((b 5), .inl (kk 0, 128, .inl kp)), ((b 6), .inl (kk 2, 2, .inl ik)), ((b 7), .inl (kk 0, 6, .inl jb))]) := hD
    refine top_eq (y := 1) (by decide) ?_
    refine lv_if_eq (tgt := 26) hx hb dX8_about_21 (by decide) (fun c_21 => absurd c_21 (by decide)) (fun c_21 => ?_)
    refine lv_iconst (v := 0) hx hb dX8_about_24 (by decide) ?_
    exact fin_i hx hb hr hlocks hK (vP_eq (congrArg (fun z : Int32 × (Nat → Int32) => ([(h, .inr (8, moF b z.2)), ((b 1), .inl (kk 0, 120, .inl tx)), ((b 2), .inl (kk 0, 64, .inl f)), ((b 3), .inl (kk 0, 64, .inl ft)), ((b 4), .inl (kk 0, 896, .inl dy)), ((b 5), .inl (kk 0, 128, .inl kp)), ((b 6), .inl (kk 2, 2, .inl ik)), ((b 7), .inl (kk 0, 6, .inl jb))] : va_W)) eS.symm) hP) (vD_eq (congrArg (fun z : Int32 × (Nat → Int32) => ([(h, .inr (8, moF b z.2)), ((b 1), .inl (kk 0, 120, .inl tx)), ((b 2), .inl (kk 0, 64, .inl f)), ((b 3), .inl (kk 0, 64, .inl ft)), ((b 4), .inl (kk 0, 896, .inl dy)), ((b 5), .inl (kk 0, 128, .inl kp)), ((b 6), .inl (kk 2, 2, .inl ik)), ((b 7), .inl (kk 0, 6, .inl jb))] : va_W)) eS.symm) hD) hS (congrArg (fun z : Int32 × (Nat → Int32) => z.1) eS) dX8_about_25
  · have eS := eS.trans (if_neg c_10)
    refine lv_iconst (v := 0) hx hb dX8_about_13 (by decide) ?_
    refine lv_goto (tgt := 18) hx hb dX8_about_14 (by decide) ?_
    refine k_goI (k_runV (rest := []) (As := [.int 0]) hx hb hml hown hts hK hP hD hS hA hE hl.1 (c_X8_refused9 l G kk h b q 0) vl_X8_119 rfl rfl rfl ⟨Nat.le_of_ble_eq_true rfl, Nat.le_of_ble_eq_true rfl, rfl, rfl⟩ [0] rfl rfl ⟨Nat.zero_le _, Nat.zero_le _⟩ rfl (Nat.le_of_ble_eq_true rfl) dX8_about_18) hP hD hS hA [0] rfl ads1 (fun H locs hP hD hS => ?_)
    replace hP : va_P G vwCl ([(h, .inr (8, moF b (upd q 0 0))), ((b 1), .inl (kk 0, 120, .inl tx)), ((b 2), .inl (kk 0, 64, .inl f)), ((b 3), .inl (kk 0, 64, .inl ft)), ((b 4), .inl (kk 0, 896, .inl dy)), ((b 5), .inl (kk 0, 128, .inl kp)), ((b 6), .inl (kk 2, 2, .inl ik)), ((b 7), .inl (kk 0, 6, .inl jb))]) H := hP
    replace hD : va_D A ([(h, .inr (8, moF b (upd q 0 0))), ((b 1), .inl (kk 0, 120, .inl tx)), ((b 2), .inl (kk 0, 64, .inl f)), ((b 3), .inl (kk 0, 64, .inl ft)), ((b 4), .inl (kk 0, 896, .inl dy)), ((b 5), .inl (kk 0, 128, .inl kp)), ((b 6), .inl (kk 2, 2, .inl ik)), ((b 7), .inl (kk 0, 6, .inl jb))]) := hD
    refine top_eq (y := 0) (by decide) ?_
    refine lv_if_eq (tgt := 26) hx hb dX8_about_21 (by decide) (fun c_21 => ?_) (fun c_21 => absurd (by decide) c_21)
    have hw1 := in_n (n := 10) c_10 rfl
    refine lv_iload_n hx hb dX8_about_26 rfl (lv_at hl 1 rfl) ?_
    refine lv_iconst (v := 3) hx hb dX8_about_27 (by decide) ?_
    refine lv_icmp_ge (tgt := 40) hx hb dX8_about_28 (by decide) (fun c_28 => ?_) (fun c_28 => ?_)
    · have eS := eS.trans (if_pos c_28)
      refine lv_iload_n hx hb dX8_about_40 rfl (lv_at hl 1 rfl) ?_
      refine lv_iconst (v := 3) hx hb dX8_about_41 (by decide) ?_
      refine lv_icmp_ne (tgt := 55) hx hb dX8_about_42 (by decide) (fun c_42 => ?_) (fun c_42 => ?_)
      · have eS := eS.trans (if_neg c_42)
        refine lv_aload_n hx hb dX8_about_55 rfl (lv_at hl 0 rfl) ?_
        refine r_get (v := .ref (b 2)) hx hb hts hown hK hP fl_X8_13 0 rfl rfl dX8_about_56 ?_
        refine lv_iload_n hx hb dX8_about_59 rfl (lv_at hl 1 rfl) ?_
        refine lv_iconst (v := 1) hx hb dX8_about_60 (by decide) ?_
        refine lv_isub hx hb dX8_about_61 ?_
        refine top_eq (y := (nI (w.toNatClampNeg - 1))) (ab_1 hw1.1 c_28 c_42) ?_
        refine r_iald hx hb hK hP 2 rfl (w.toNatClampNeg - 1) rfl (by have := hw1.2; omega) (by decide) dX8_about_62 ?_
        exact fin_i hx hb hr hlocks hK (vP_eq (congrArg (fun z : Int32 × (Nat → Int32) => ([(h, .inr (8, moF b z.2)), ((b 1), .inl (kk 0, 120, .inl tx)), ((b 2), .inl (kk 0, 64, .inl f)), ((b 3), .inl (kk 0, 64, .inl ft)), ((b 4), .inl (kk 0, 896, .inl dy)), ((b 5), .inl (kk 0, 128, .inl kp)), ((b 6), .inl (kk 2, 2, .inl ik)), ((b 7), .inl (kk 0, 6, .inl jb))] : va_W)) eS.symm) hP) (vD_eq (congrArg (fun z : Int32 × (Nat → Int32) => ([(h, .inr (8, moF b z.2)), ((b 1), .inl (kk 0, 120, .inl tx)), ((b 2), .inl (kk 0, 64, .inl f)), ((b 3), .inl (kk 0, 64, .inl ft)), ((b 4), .inl (kk 0, 896, .inl dy)), ((b 5), .inl (kk 0, 128, .inl kp)), ((b 6), .inl (kk 2, 2, .inl ik)), ((b 7), .inl (kk 0, 6, .inl jb))] : va_W)) eS.symm) hD) hS (congrArg (fun z : Int32 × (Nat → Int32) => z.1) eS) dX8_about_63
      · have eS := eS.trans (if_pos c_42)
        refine lv_aload_n hx hb dX8_about_45 rfl (lv_at hl 0 rfl) ?_
        refine r_get (v := .ref (b 2)) hx hb hts hown hK hP fl_X8_13 0 rfl rfl dX8_about_46 ?_
        refine k_goI (k_runS (rest := []) (As := [.ref (b 2)]) hx hb hml hown hts hK hP hD hS hA hE hl.1 (c_X8_minutesLeft l G kk (b 2) f ) sl_X8_51 ⟨Nat.le_of_ble_eq_true rfl, Nat.le_of_ble_eq_true rfl, rfl, rfl⟩ [2] rfl rfl ⟨Nat.zero_le _, Nat.zero_le _⟩ rfl (Nat.le_of_ble_eq_true rfl) dX8_about_49) hP hD hS hA [2] rfl ads1 (fun H locs hP hD hS => ?_)
        replace hP : va_P G vwCl ([(h, .inr (8, moF b (upd q 0 0))), ((b 1), .inl (kk 0, 120, .inl tx)), ((b 2), .inl (kk 0, 64, .inl f)), ((b 3), .inl (kk 0, 64, .inl ft)), ((b 4), .inl (kk 0, 896, .inl dy)), ((b 5), .inl (kk 0, 128, .inl kp)), ((b 6), .inl (kk 2, 2, .inl ik)), ((b 7), .inl (kk 0, 6, .inl jb))]) H := hP
        replace hD : va_D A ([(h, .inr (8, moF b (upd q 0 0))), ((b 1), .inl (kk 0, 120, .inl tx)), ((b 2), .inl (kk 0, 64, .inl f)), ((b 3), .inl (kk 0, 64, .inl ft)), ((b 4), .inl (kk 0, 896, .inl dy)), ((b 5), .inl (kk 0, 128, .inl kp)), ((b 6), .inl (kk 2, 2, .inl ik)), ((b 7), .inl (kk 0, 6, .inl jb))]) := hD
        refine lv_goto (tgt := 63) hx hb dX8_about_52 (by decide) ?_
        exact fin_i hx hb hr hlocks hK (vP_eq (congrArg (fun z : Int32 × (Nat → Int32) => ([(h, .inr (8, moF b z.2)), ((b 1), .inl (kk 0, 120, .inl tx)), ((b 2), .inl (kk 0, 64, .inl f)), ((b 3), .inl (kk 0, 64, .inl ft)), ((b 4), .inl (kk 0, 896, .inl dy)), ((b 5), .inl (kk 0, 128, .inl kp)), ((b 6), .inl (kk 2, 2, .inl ik)), ((b 7), .inl (kk 0, 6, .inl jb))] : va_W)) eS.symm) hP) (vD_eq (congrArg (fun z : Int32 × (Nat → Int32) => ([(h, .inr (8, moF b z.2)), ((b 1), .inl (kk 0, 120, .inl tx)), ((b 2), .inl (kk 0, 64, .inl f)), ((b 3), .inl (kk 0, 64, .inl ft)), ((b 4), .inl (kk 0, 896, .inl dy)), ((b 5), .inl (kk 0, 128, .inl kp)), ((b 6), .inl (kk 2, 2, .inl ik)), ((b 7), .inl (kk 0, 6, .inl jb))] : va_W)) eS.symm) hD) hS (congrArg (fun z : Int32 × (Nat → Int32) => z.1) eS) dX8_about_63
    · have eS := eS.trans (if_neg c_28)
      refine lv_aload_n hx hb dX8_about_31 rfl (lv_at hl 0 rfl) ?_
      refine r_get (v := .ref (b 2)) hx hb hts hown hK hP fl_X8_13 0 rfl rfl dX8_about_32 ?_
      refine lv_iload_n hx hb dX8_about_35 rfl (lv_at hl 1 rfl) ?_
      refine top_eq (y := (nI w.toNatClampNeg)) (hw1.1) ?_
      refine r_iald hx hb hK hP 2 rfl w.toNatClampNeg rfl (by have := hw1.2; omega) (by decide) dX8_about_36 ?_
      refine lv_goto (tgt := 63) hx hb dX8_about_37 (by decide) ?_
      exact fin_i hx hb hr hlocks hK (vP_eq (congrArg (fun z : Int32 × (Nat → Int32) => ([(h, .inr (8, moF b z.2)), ((b 1), .inl (kk 0, 120, .inl tx)), ((b 2), .inl (kk 0, 64, .inl f)), ((b 3), .inl (kk 0, 64, .inl ft)), ((b 4), .inl (kk 0, 896, .inl dy)), ((b 5), .inl (kk 0, 128, .inl kp)), ((b 6), .inl (kk 2, 2, .inl ik)), ((b 7), .inl (kk 0, 6, .inl jb))] : va_W)) eS.symm) hP) (vD_eq (congrArg (fun z : Int32 × (Nat → Int32) => ([(h, .inr (8, moF b z.2)), ((b 1), .inl (kk 0, 120, .inl tx)), ((b 2), .inl (kk 0, 64, .inl f)), ((b 3), .inl (kk 0, 64, .inl ft)), ((b 4), .inl (kk 0, 896, .inl dy)), ((b 5), .inl (kk 0, 128, .inl kp)), ((b 6), .inl (kk 2, 2, .inl ik)), ((b 7), .inl (kk 0, 6, .inl jb))] : va_W)) eS.symm) hD) hS (congrArg (fun z : Int32 × (Nat → Int32) => z.1) eS) dX8_about_63
