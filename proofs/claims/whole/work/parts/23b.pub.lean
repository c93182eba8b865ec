theorem ads7 {a1 a2 a3 a4 a5 a6 a7 : Nat} {e1 f1 e2 f2 e3 f3 e4 f4 e5 f5 e6 f6 e7 f7 : va_E} : ([(a1, f1), (a2, f2), (a3, f3), (a4, f4), (a5, f5), (a6, f6), (a7, f7)] : va_W).map (fun q => q.1) = ([(a1, e1), (a2, e2), (a3, e3), (a4, e4), (a5, e5), (a6, e6), (a7, e7)] : va_W).map (fun q => q.1) := rfl
theorem ads8 {a1 a2 a3 a4 a5 a6 a7 a8 : Nat} {e1 f1 e2 f2 e3 f3 e4 f4 e5 f5 e6 f6 e7 f7 e8 f8 : va_E} : ([(a1, f1), (a2, f2), (a3, f3), (a4, f4), (a5, f5), (a6, f6), (a7, f7), (a8, f8)] : va_W).map (fun q => q.1) = ([(a1, e1), (a2, e2), (a3, e3), (a4, e4), (a5, e5), (a6, e6), (a7, e7), (a8, e8)] : va_W).map (fun q => q.1) := rfl
theorem sz_l {q : Nat → Int32} {n : Nat} (hs : q 2 = nI n) (hz : n ≤ 120) (h : ¬ q 2 = 120) : n < 120 := by
  rcases Nat.lt_or_ge n 120 with r | r
  · exact r
  · have : n = 120 := by omega
    subst this
    exact absurd hs h
theorem c14 {c : Nat} (hc : c ≤ 14) (h : ¬ nI c = 14) : c < 14 := by
  rcases Nat.lt_or_ge c 14 with r | r
  · exact r
  · have : c = 14 := by omega
    subst this
    exact absurd rfl h
theorem ab_1 {w : Int32} (h : w = nI w.toNatClampNeg) (h1 : 3 ≤ w) (h2 : ¬ w = 3) : w - 1 = nI (w.toNatClampNeg - 1) := by
  rw [h]
  have h3 : 1 ≤ w.toNatClampNeg := by
    rcases Nat.lt_or_ge w.toNatClampNeg 1 with q | q
    · have : w.toNatClampNeg = 0 := by omega
      rw [this] at h
      rw [h] at h1
      exact absurd h1 (by decide)
    · exact q
  have e : (nI w.toNatClampNeg).toNatClampNeg = w.toNatClampNeg := by rw [← h]
  rw [e]
  exact pk_sub h3
def sX8_about (q : Nat → Int32) (tx : Nat → Int32) (f : Nat → Int32) (ft : Nat → Int32) (dy : Nat → Int32) (kp : Nat → Int32) (ik : Nat → Int32) (jb : Nat → Int32) (w : Int32) : Int32 × (Nat → Int32) :=
  (if (sX8_in (w.toInt64) 0 10) = 0 then (0, (upd q 0 1)) else (if 3 ≤ w then (if w = 3 then ((sX8_minutesLeft f), (upd q 0 0)) else ((f (w.toNatClampNeg - 1)), (upd q 0 0))) else ((f w.toNatClampNeg), (upd q 0 0))))
set_option maxRecDepth 100000 in
set_option maxHeartbeats 4000000 in
theorem c_X8_about (l : Launch) (G : va_G) (kk : Nat → ClassId) (h : Nat) (b : Nat → Nat) (q : Nat → Int32) (tx : Nat → Int32) (f : Nat → Int32) (ft : Nat → Int32) (dy : Nat → Int32) (kp : Nat → Int32) (ik : Nat → Int32) (jb : Nat → Int32) (w : Int32)  : CC l yX8_about cX8_about 2 (some .int) (rmO 1 25) [.ref h, .int w] G kk ([(h, .inr (8, moF b q)), ((b 1), .inl (kk 0, 120, .inl tx)), ((b 2), .inl (kk 0, 64, .inl f)), ((b 3), .inl (kk 0, 64, .inl ft)), ((b 4), .inl (kk 0, 896, .inl dy)), ((b 5), .inl (kk 0, 128, .inl kp)), ((b 6), .inl (kk 2, 2, .inl ik)), ((b 7), .inl (kk 0, 6, .inl jb))]) (QI G kk ([(h, .inr (8, moF b ((sX8_about q tx f ft dy kp ik jb w).2))), ((b 1), .inl (kk 0, 120, .inl tx)), ((b 2), .inl (kk 0, 64, .inl f)), ((b 3), .inl (kk 0, 64, .inl ft)), ((b 4), .inl (kk 0, 896, .inl dy)), ((b 5), .inl (kk 0, 128, .inl kp)), ((b 6), .inl (kk 2, 2, .inl ik)), ((b 7), .inl (kk 0, 6, .inl jb))]) ((sX8_about q tx f ft dy kp ik jb w).1)) := by
  refine cc_start (by decide +kernel) (Nat.le_of_ble_eq_true rfl) ?_
  intro p e s m below meth c A ls hx hb hr hml hown hts hlocks hA hE hK hP hD hS hl
  have hown : s.vm.findClass RX8 = some m.cls := hown
  have hl : lv_has ls 2 [(0, .ref h), (1, .int w)] := hl
  have eS : sX8_about q tx f ft dy kp ik jb w = sX8_about q tx f ft dy kp ik jb w := rfl
  refine lv_aload_n hx hb dX8_about_0 rfl (lv_at hl 0 rfl) ?_
  refine lv_iload_n hx hb dX8_about_1 rfl (lv_at hl 1 rfl) ?_
  refine lv_i2l (v := (w.toInt64)) hx hb dX8_about_2 (by first | rfl | decide) ?_
  refine lv_lconst (v := 0) hx hb dX8_about_3 rfl ?_
  refine lv_ldc2 (v := 10) hx hb hown (hts _ kl_X8_182) dX8_about_4 ?_
  refine k_goI (k_runS (rest := [.ref h]) (As := [.long (w.toInt64), .long 0, .long 10]) hx hb hml hown hts hK hP hD hS hA hE hl.1 (c_X8_in l G kk (w.toInt64) 0 10 ) sl_X8_40 ⟨Nat.le_of_ble_eq_true rfl, Nat.le_of_ble_eq_true rfl, rfl, rfl⟩ [] rfl rfl ⟨Nat.zero_le _, Nat.zero_le _⟩ rfl (Nat.le_of_ble_eq_true rfl) dX8_about_7) hP hD hS hA [] rfl ads0 (fun H locs hP hD hS => ?_)
  replace hP : va_P G vwCl ([(h, .inr (8, moF b q)), ((b 1), .inl (kk 0, 120, .inl tx)), ((b 2), .inl (kk 0, 64, .inl f)), ((b 3), .inl (kk 0, 64, .inl ft)), ((b 4), .inl (kk 0, 896, .inl dy)), ((b 5), .inl (kk 0, 128, .inl kp)), ((b 6), .inl (kk 2, 2, .inl ik)), ((b 7), .inl (kk 0, 6, .inl jb))]) H := hP
  replace hD : va_D A ([(h, .inr (8, moF b q)), ((b 1), .inl (kk 0, 120, .inl tx)), ((b 2), .inl (kk 0, 64, .inl f)), ((b 3), .inl (kk 0, 64, .inl ft)), ((b 4), .inl (kk 0, 896, .inl dy)), ((b 5), .inl (kk 0, 128, .inl kp)), ((b 6), .inl (kk 2, 2, .inl ik)), ((b 7), .inl (kk 0, 6, .inl jb))]) := hD
  refine lv_if_eq (tgt := 17) hx hb dX8_about_10 (by decide) (fun c_10 => ?_) (fun c_10 => ?_)
  · have eS := eS.trans (if_pos c_10)
    refine lv_iconst (v := 1) hx hb dX8_about_17 (by decide) ?_
    refine k_goI (k_runV (rest := []) (As := [.int 1]) hx hb hml hown hts hK hP hD hS hA hE hl.1 (c_X8_refused9 l G kk h b q 1) vl_X8_119 rfl rfl rfl ⟨Nat.le_of_ble_eq_true rfl, Nat.le_of_ble_eq_true rfl, rfl, rfl⟩ [0] rfl rfl ⟨Nat.zero_le _, Nat.zero_le _⟩ rfl (Nat.le_of_ble_eq_true rfl) dX8_about_18) hP hD hS hA [0] rfl ads1 (fun H locs hP hD hS => ?_)
    replace hP : va_P G vwCl ([(h, .inr (8, moF b (upd q 0 1))), ((b 1), .inl (kk 0, 120, .inl tx)), ((b 2), .inl (kk 0, 64, .inl f)), ((b 3), .inl (kk 0, 64, .inl ft)), ((b 4), .inl (kk 0, 896, .inl dy)), ((b 5), .inl (kk 0, 128, .inl kp)), ((b 6), .inl (kk 2, 2, .inl ik)), ((b 7), .inl (kk 0, 6, .inl jb))]) H := hP
    replace hD : va_D A ([(h, .inr (8, moF b (upd q 0 1))), ((b 1), .inl (kk 0, 120, .inl tx)), ((b 2), .inl (kk 0, 64, .inl f)), ((b 3), .inl (kk 0, 64, .inl ft)), ((b 4), .inl (kk 0, 896, .inl dy)), ((b 5), .inl (kk 0, 128, .inl kp)), ((b 6), .inl (kk 2, 2, .inl ik)), ((b 7), .inl (kk 0, 6, .inl jb))]) := hD
    refine top_eq (y := 1) (by decide) ?_
    refine lv_if_eq (tgt := 26) hx hb dX8_about_21 (by decide) (fun c_21 => absurd c_21 (by decide)) (fun c_21 => ?_)
    refine lv_iconst (v := 0) hx hb dX8_about_24 (by decide) ?_
    exact fin_i hx hb hr hlocks hK (vP_eq (congrArg (fun z : Int32 × (Nat → Int32) => ([(h, .inr (8, moF b z.2)), ((b 1), .inl (kk 0, 120, .inl tx)), ((b 2), .inl (kk 0, 64, .inl f)), ((b 3), .inl (kk 0, 64, .inl ft)), ((b 4), .inl (kk 0, 896, .inl dy)), ((b 5), .inl (kk 0, 128, .inl kp)), ((b 6), .inl (kk 2, 2, .inl ik)), ((b 7), .inl (kk 0, 6, .inl jb))] : va_W)) eS.symm) hP) (vD_eq (congrArg (fun z : Int32 × (Nat → Int32) => ([(h, .inr (8, moF b z.2)), ((b 1), .inl (kk 0, 120, .inl tx)), ((b 2), .inl (kk 0, 64, .inl f)), ((b 3), .inl (kk 0, 64, .inl ft)), ((b 4), .inl (kk 0, 896, .inl dy)), ((b 5), .inl (kk 0, 128, .inl kp)), ((b 6), .inl (kk 2, 2, .inl ik)), ((b 7), .inl (kk 0, 6, .inl jb))] : va_W)) eS.symm) hD) hS (congrArg (fun z : Int32 × (Nat → Int32) => z.1) eS) dX8_about_25
  · have eS := eS.trans (if_neg c_10)
    refine lv_iconst (v := 0) hx hb dX8_about_13 (by decide) ?_
    refine lv_goto (tgt := 18) hx hb dX8_about_14 (by decide) ?_
    refine k_goI (k_runV (rest := []) (As := [.int 0]) hx hb hml hown hts hK hP hD hS hA hE hl.1 (c_X8_refused9 l G kk h b q 0) vl_X8_119 rfl rfl rfl ⟨Nat.le_of_ble_eq_true rfl, Nat.le_of_ble_eq_true rfl, rfl, rfl⟩ [0] rfl rfl ⟨Nat.zero_le _, Nat.zero_le _⟩ rfl (Nat.le_of_ble_eq_true rfl) dX8_about_18) hP hD hS hA [0] rfl ads1 (fun H locs hP hD hS => ?_)
    replace hP : va_P G vwCl ([(h, .inr (8, moF b (upd q 0 0))), ((b 1), .inl (kk 0, 120, .inl tx)), ((b 2), .inl (kk 0, 64, .inl f)), ((b 3), .inl (kk 0, 64, .inl ft)), ((b 4), .inl (kk 0, 896, .inl dy)), ((b 5), .inl (kk 0, 128, .inl kp)), ((b 6), .inl (kk 2, 2, .inl ik)), ((b 7), .inl (kk 0, 6, .inl jb))]) H := hP
    replace hD : va_D A ([(h, .inr (8, moF b (upd q 0 0))), ((b 1), .inl (kk 0, 120, .inl tx)), ((b 2), .inl (kk 0, 64, .inl f)), ((b 3), .inl (kk 0, 64, .inl ft)), ((b 4), .inl (kk 0, 896, .inl dy)), ((b 5), .inl (kk 0, 128, .inl kp)), ((b 6), .inl (kk 2, 2, .inl ik)), ((b 7), .inl (kk 0, 6, .inl jb))]) := hD
    refine top_eq (y := 0) (by decide) ?_
    refine lv_if_eq (tgt := 26) hx hb dX8_about_21 (by decide) (fun c_21 => ?_) (fun c_21 => absurd (by decide) c_21)
    have hw1 := in_n (n := 10) c_10 rfl
    refine lv_iload_n hx hb dX8_about_26 rfl (lv_at hl 1 rfl) ?_
    refine lv_iconst (v := 3) hx hb dX8_about_27 (by decide) ?_
    refine lv_icmp_ge (tgt := 40) hx hb dX8_about_28 (by decide) (fun c_28 => ?_) (fun c_28 => ?_)
    · have eS := eS.trans (if_pos c_28)
      refine lv_iload_n hx hb dX8_about_40 rfl (lv_at hl 1 rfl) ?_
      refine lv_iconst (v := 3) hx hb dX8_about_41 (by decide) ?_
      refine lv_icmp_ne (tgt := 55) hx hb dX8_about_42 (by decide) (fun c_42 => ?_) (fun c_42 => ?_)
      · have eS := eS.trans (if_neg c_42)
        refine lv_aload_n hx hb dX8_about_55 rfl (lv_at hl 0 rfl) ?_
        refine r_get (v := .ref (b 2)) hx hb hts hown hK hP fl_X8_13 0 rfl rfl dX8_about_56 ?_
        refine lv_iload_n hx hb dX8_about_59 rfl (lv_at hl 1 rfl) ?_
        refine lv_iconst (v := 1) hx hb dX8_about_60 (by decide) ?_
        refine lv_isub hx hb dX8_about_61 ?_
        refine top_eq (y := (nI (w.toNatClampNeg - 1))) (ab_1 hw1.1 c_28 c_42) ?_
        refine r_iald hx hb hK hP 2 rfl (w.toNatClampNeg - 1) rfl (by have := hw1.2; omega) (by decide) dX8_about_62 ?_
        exact fin_i hx hb hr hlocks hK (vP_eq (congrArg (fun z : Int32 × (Nat → Int32) => ([(h, .inr (8, moF b z.2)), ((b 1), .inl (kk 0, 120, .inl tx)), ((b 2), .inl (kk 0, 64, .inl f)), ((b 3), .inl (kk 0, 64, .inl ft)), ((b 4), .inl (kk 0, 896, .inl dy)), ((b 5), .inl (kk 0, 128, .inl kp)), ((b 6), .inl (kk 2, 2, .inl ik)), ((b 7), .inl (kk 0, 6, .inl jb))] : va_W)) eS.symm) hP) (vD_eq (congrArg (fun z : Int32 × (Nat → Int32) => ([(h, .inr (8, moF b z.2)), ((b 1), .inl (kk 0, 120, .inl tx)), ((b 2), .inl (kk 0, 64, .inl f)), ((b 3), .inl (kk 0, 64, .inl ft)), ((b 4), .inl (kk 0, 896, .inl dy)), ((b 5), .inl (kk 0, 128, .inl kp)), ((b 6), .inl (kk 2, 2, .inl ik)), ((b 7), .inl (kk 0, 6, .inl jb))] : va_W)) eS.symm) hD) hS (congrArg (fun z : Int32 × (Nat → Int32) => z.1) eS) dX8_about_63
      · have eS := eS.trans (if_pos c_42)
        refine lv_aload_n hx hb dX8_about_45 rfl (lv_at hl 0 rfl) ?_
        refine r_get (v := .ref (b 2)) hx hb hts hown hK hP fl_X8_13 0 rfl rfl dX8_about_46 ?_
        refine k_goI (k_runS (rest := []) (As := [.ref (b 2)]) hx hb hml hown hts hK hP hD hS hA hE hl.1 (c_X8_minutesLeft l G kk (b 2) f ) sl_X8_51 ⟨Nat.le_of_ble_eq_true rfl, Nat.le_of_ble_eq_true rfl, rfl, rfl⟩ [2] rfl rfl ⟨Nat.zero_le _, Nat.zero_le _⟩ rfl (Nat.le_of_ble_eq_true rfl) dX8_about_49) hP hD hS hA [2] rfl ads1 (fun H locs hP hD hS => ?_)
        replace hP : va_P G vwCl ([(h, .inr (8, moF b (upd q 0 0))), ((b 1), .inl (kk 0, 120, .inl tx)), ((b 2), .inl (kk 0, 64, .inl f)), ((b 3), .inl (kk 0, 64, .inl ft)), ((b 4), .inl (kk 0, 896, .inl dy)), ((b 5), .inl (kk 0, 128, .inl kp)), ((b 6), .inl (kk 2, 2, .inl ik)), ((b 7), .inl (kk 0, 6, .inl jb))]) H := hP
        replace hD : va_D A ([(h, .inr (8, moF b (upd q 0 0))), ((b 1), .inl (kk 0, 120, .inl tx)), ((b 2), .inl (kk 0, 64, .inl f)), ((b 3), .inl (kk 0, 64, .inl ft)), ((b 4), .inl (kk 0, 896, .inl dy)), ((b 5), .inl (kk 0, 128, .inl kp)), ((b 6), .inl (kk 2, 2, .inl ik)), ((b 7), .inl (kk 0, 6, .inl jb))]) := hD
        refine lv_goto (tgt := 63) hx hb dX8_about_52 (by decide) ?_
        exact fin_i hx hb hr hlocks hK (vP_eq (congrArg (fun z : Int32 × (Nat → Int32) => ([(h, .inr (8, moF b z.2)), ((b 1), .inl (kk 0, 120, .inl tx)), ((b 2), .inl (kk 0, 64, .inl f)), ((b 3), .inl (kk 0, 64, .inl ft)), ((b 4), .inl (kk 0, 896, .inl dy)), ((b 5), .inl (kk 0, 128, .inl kp)), ((b 6), .inl (kk 2, 2, .inl ik)), ((b 7), .inl (kk 0, 6, .inl jb))] : va_W)) eS.symm) hP) (vD_eq (congrArg (fun z : Int32 × (Nat → Int32) => ([(h, .inr (8, moF b z.2)), ((b 1), .inl (kk 0, 120, .inl tx)), ((b 2), .inl (kk 0, 64, .inl f)), ((b 3), .inl (kk 0, 64, .inl ft)), ((b 4), .inl (kk 0, 896, .inl dy)), ((b 5), .inl (kk 0, 128, .inl kp)), ((b 6), .inl (kk 2, 2, .inl ik)), ((b 7), .inl (kk 0, 6, .inl jb))] : va_W)) eS.symm) hD) hS (congrArg (fun z : Int32 × (Nat → Int32) => z.1) eS) dX8_about_63
    · have eS := eS.trans (if_neg c_28)
      refine lv_aload_n hx hb dX8_about_31 rfl (lv_at hl 0 rfl) ?_
      refine r_get (v := .ref (b 2)) hx hb hts hown hK hP fl_X8_13 0 rfl rfl dX8_about_32 ?_
      refine lv_iload_n hx hb dX8_about_35 rfl (lv_at hl 1 rfl) ?_
      refine top_eq (y := (nI w.toNatClampNeg)) (hw1.1) ?_
      refine r_iald hx hb hK hP 2 rfl w.toNatClampNeg rfl (by have := hw1.2; omega) (by decide) dX8_about_36 ?_
      refine lv_goto (tgt := 63) hx hb dX8_about_37 (by decide) ?_
      exact fin_i hx hb hr hlocks hK (vP_eq (congrArg (fun z : Int32 × (Nat → Int32) => ([(h, .inr (8, moF b z.2)), ((b 1), .inl (kk 0, 120, .inl tx)), ((b 2), .inl (kk 0, 64, .inl f)), ((b 3), .inl (kk 0, 64, .inl ft)), ((b 4), .inl (kk 0, 896, .inl dy)), ((b 5), .inl (kk 0, 128, .inl kp)), ((b 6), .inl (kk 2, 2, .inl ik)), ((b 7), .inl (kk 0, 6, .inl jb))] : va_W)) eS.symm) hP) (vD_eq (congrArg (fun z : Int32 × (Nat → Int32) => ([(h, .inr (8, moF b z.2)), ((b 1), .inl (kk 0, 120, .inl tx)), ((b 2), .inl (kk 0, 64, .inl f)), ((b 3), .inl (kk 0, 64, .inl ft)), ((b 4), .inl (kk 0, 896, .inl dy)), ((b 5), .inl (kk 0, 128, .inl kp)), ((b 6), .inl (kk 2, 2, .inl ik)), ((b 7), .inl (kk 0, 6, .inl jb))] : va_W)) eS.symm) hD) hS (congrArg (fun z : Int32 × (Nat → Int32) => z.1) eS) dX8_about_63
def sX8_append (q : Nat → Int32) (tx : Nat → Int32) (f : Nat → Int32) (ft : Nat → Int32) (dy : Nat → Int32) (kp : Nat → Int32) (ik : Nat → Int32) (jb : Nat → Int32) (x : Int32) (sz : Nat) : Int32 × (Nat → Int32) × (Nat → Int32) :=
  (if (sX8_in (x.toInt64) 0 255) = 0 then (0, (upd q 0 1), tx) else (if (q 2) = 120 then (0, (upd q 0 2), tx) else (((q 2) + 1), (upd (upd q 0 0) 2 ((q 2) + 1)), (upd tx sz x))))
set_option maxRecDepth 100000 in
set_option maxHeartbeats 4000000 in
theorem c_X8_append (l : Launch) (G : va_G) (kk : Nat → ClassId) (h : Nat) (b : Nat → Nat) (q : Nat → Int32) (tx : Nat → Int32) (f : Nat → Int32) (ft : Nat → Int32) (dy : Nat → Int32) (kp : Nat → Int32) (ik : Nat → Int32) (jb : Nat → Int32) (x : Int32) (sz : Nat) (hs : q 2 = nI sz) (hz : sz ≤ 120) : CC l yX8_append cX8_append 2 (some .int) (rmO 1 25) [.ref h, .int x] G kk ([(h, .inr (8, moF b q)), ((b 1), .inl (kk 0, 120, .inl tx)), ((b 2), .inl (kk 0, 64, .inl f)), ((b 3), .inl (kk 0, 64, .inl ft)), ((b 4), .inl (kk 0, 896, .inl dy)), ((b 5), .inl (kk 0, 128, .inl kp)), ((b 6), .inl (kk 2, 2, .inl ik)), ((b 7), .inl (kk 0, 6, .inl jb))]) (QI G kk ([(h, .inr (8, moF b ((sX8_append q tx f ft dy kp ik jb x sz).2.1))), ((b 1), .inl (kk 0, 120, .inl ((sX8_append q tx f ft dy kp ik jb x sz).2.2))), ((b 2), .inl (kk 0, 64, .inl f)), ((b 3), .inl (kk 0, 64, .inl ft)), ((b 4), .inl (kk 0, 896, .inl dy)), ((b 5), .inl (kk 0, 128, .inl kp)), ((b 6), .inl (kk 2, 2, .inl ik)), ((b 7), .inl (kk 0, 6, .inl jb))]) ((sX8_append q tx f ft dy kp ik jb x sz).1)) := by
  refine cc_start (by decide +kernel) (Nat.le_of_ble_eq_true rfl) ?_
  intro p e s m below meth c A ls hx hb hr hml hown hts hlocks hA hE hK hP hD hS hl
  have hown : s.vm.findClass RX8 = some m.cls := hown
  have hl : lv_has ls 2 [(0, .ref h), (1, .int x)] := hl
  have eS : sX8_append q tx f ft dy kp ik jb x sz = sX8_append q tx f ft dy kp ik jb x sz := rfl
  refine lv_aload_n hx hb dX8_append_0 rfl (lv_at hl 0 rfl) ?_
  refine lv_iload_n hx hb dX8_append_1 rfl (lv_at hl 1 rfl) ?_
  refine lv_i2l (v := (x.toInt64)) hx hb dX8_append_2 (by first | rfl | decide) ?_
  refine lv_lconst (v := 0) hx hb dX8_append_3 rfl ?_
  refine lv_ldc2 (v := 255) hx hb hown (hts _ kl_X8_114) dX8_append_4 ?_
  refine k_goI (k_runS (rest := [.ref h]) (As := [.long (x.toInt64), .long 0, .long 255]) hx hb hml hown hts hK hP hD hS hA hE hl.1 (c_X8_in l G kk (x.toInt64) 0 255 ) sl_X8_40 ⟨Nat.le_of_ble_eq_true rfl, Nat.le_of_ble_eq_true rfl, rfl, rfl⟩ [] rfl rfl ⟨Nat.zero_le _, Nat.zero_le _⟩ rfl (Nat.le_of_ble_eq_true rfl) dX8_append_7) hP hD hS hA [] rfl ads0 (fun H locs hP hD hS => ?_)
  replace hP : va_P G vwCl ([(h, .inr (8, moF b q)), ((b 1), .inl (kk 0, 120, .inl tx)), ((b 2), .inl (kk 0, 64, .inl f)), ((b 3), .inl (kk 0, 64, .inl ft)), ((b 4), .inl (kk 0, 896, .inl dy)), ((b 5), .inl (kk 0, 128, .inl kp)), ((b 6), .inl (kk 2, 2, .inl ik)), ((b 7), .inl (kk 0, 6, .inl jb))]) H := hP
  replace hD : va_D A ([(h, .inr (8, moF b q)), ((b 1), .inl (kk 0, 120, .inl tx)), ((b 2), .inl (kk 0, 64, .inl f)), ((b 3), .inl (kk 0, 64, .inl ft)), ((b 4), .inl (kk 0, 896, .inl dy)), ((b 5), .inl (kk 0, 128, .inl kp)), ((b 6), .inl (kk 2, 2, .inl ik)), ((b 7), .inl (kk 0, 6, .inl jb))]) := hD
  refine lv_if_ne (tgt := 17) hx hb dX8_append_10 (by decide) (fun c_10 => ?_) (fun c_10 => ?_)
  · have eS := eS.trans (if_neg c_10)
    refine lv_aload_n hx hb dX8_append_17 rfl (lv_at hl 0 rfl) ?_
    refine r_get (v := .int (q 2)) hx hb hts hown hK hP fl_X8_116 0 rfl rfl dX8_append_18 ?_
    refine lv_bipush (v := 120) hx hb dX8_append_21 (by decide) ?_
    refine lv_icmp_ne (tgt := 30) hx hb dX8_append_23 (by decide) (fun c_23 => ?_) (fun c_23 => ?_)
    · have eS := eS.trans (if_neg c_23)
      refine lv_iconst (v := 0) hx hb dX8_append_30 (by decide) ?_
      refine k_goI (k_runV (rest := []) (As := [.int 0]) hx hb hml hown hts hK hP hD hS hA hE hl.1 (c_X8_refused9 l G kk h b q 0) vl_X8_119 rfl rfl rfl ⟨Nat.le_of_ble_eq_true rfl, Nat.le_of_ble_eq_true rfl, rfl, rfl⟩ [0] rfl rfl ⟨Nat.zero_le _, Nat.zero_le _⟩ rfl (Nat.le_of_ble_eq_true rfl) dX8_append_31) hP hD hS hA [0] rfl ads1 (fun H locs hP hD hS => ?_)
      replace hP : va_P G vwCl ([(h, .inr (8, moF b (upd q 0 0))), ((b 1), .inl (kk 0, 120, .inl tx)), ((b 2), .inl (kk 0, 64, .inl f)), ((b 3), .inl (kk 0, 64, .inl ft)), ((b 4), .inl (kk 0, 896, .inl dy)), ((b 5), .inl (kk 0, 128, .inl kp)), ((b 6), .inl (kk 2, 2, .inl ik)), ((b 7), .inl (kk 0, 6, .inl jb))]) H := hP
      replace hD : va_D A ([(h, .inr (8, moF b (upd q 0 0))), ((b 1), .inl (kk 0, 120, .inl tx)), ((b 2), .inl (kk 0, 64, .inl f)), ((b 3), .inl (kk 0, 64, .inl ft)), ((b 4), .inl (kk 0, 896, .inl dy)), ((b 5), .inl (kk 0, 128, .inl kp)), ((b 6), .inl (kk 2, 2, .inl ik)), ((b 7), .inl (kk 0, 6, .inl jb))]) := hD
      refine top_eq (y := 0) (by decide) ?_
      refine lv_if_eq (tgt := 39) hx hb dX8_append_34 (by decide) (fun c_34 => ?_) (fun c_34 => absurd (by decide) c_34)
      have hs1 := sz_l hs hz c_23
      refine lv_aload_n hx hb dX8_append_39 rfl (lv_at hl 0 rfl) ?_
      refine r_get (v := .ref (b 1)) hx hb hts hown hK hP fl_X8_7 0 rfl rfl dX8_append_40 ?_
      refine lv_aload_n hx hb dX8_append_43 rfl (lv_at hl 0 rfl) ?_
      refine r_get (v := .int (q 2)) hx hb hts hown hK hP fl_X8_116 0 rfl rfl dX8_append_44 ?_
      refine top_eq (y := (nI sz)) (hs) ?_
      refine lv_iload_n hx hb dX8_append_47 rfl (lv_at hl 1 rfl) ?_
      refine r_iast hx hb hK hP hD hS 1 rfl sz rfl (by omega) (by decide) dX8_append_48 (fun H locs hP hD hS => ?_)
      replace hP : va_P G vwCl ([(h, .inr (8, moF b (upd q 0 0))), ((b 1), .inl (kk 0, 120, .inl (upd tx sz x))), ((b 2), .inl (kk 0, 64, .inl f)), ((b 3), .inl (kk 0, 64, .inl ft)), ((b 4), .inl (kk 0, 896, .inl dy)), ((b 5), .inl (kk 0, 128, .inl kp)), ((b 6), .inl (kk 2, 2, .inl ik)), ((b 7), .inl (kk 0, 6, .inl jb))]) H := hP
      replace hD : va_D A ([(h, .inr (8, moF b (upd q 0 0))), ((b 1), .inl (kk 0, 120, .inl (upd tx sz x))), ((b 2), .inl (kk 0, 64, .inl f)), ((b 3), .inl (kk 0, 64, .inl ft)), ((b 4), .inl (kk 0, 896, .inl dy)), ((b 5), .inl (kk 0, 128, .inl kp)), ((b 6), .inl (kk 2, 2, .inl ik)), ((b 7), .inl (kk 0, 6, .inl jb))]) := hD
      refine lv_aload_n hx hb dX8_append_49 rfl (lv_at hl 0 rfl) ?_
      refine lv_dup hx hb dX8_append_50 rfl ?_
      refine r_get (v := .int (q 2)) hx hb hts hown hK hP fl_X8_116 0 rfl rfl dX8_append_51 ?_
      refine lv_iconst (v := 1) hx hb dX8_append_54 (by decide) ?_
      refine lv_iadd hx hb dX8_append_55 ?_
      refine r_put hx hb hts hown hK hP hD hS fl_X8_116 fw_8_2 0 rfl rfl rfl (Nat.le_of_ble_eq_true rfl) dX8_append_56 (fun H locs hP hD hS => ?_)
      replace hP : va_P G vwCl ([(h, .inr (8, moF b (upd (upd q 0 0) 2 ((q 2) + 1)))), ((b 1), .inl (kk 0, 120, .inl (upd tx sz x))), ((b 2), .inl (kk 0, 64, .inl f)), ((b 3), .inl (kk 0, 64, .inl ft)), ((b 4), .inl (kk 0, 896, .inl dy)), ((b 5), .inl (kk 0, 128, .inl kp)), ((b 6), .inl (kk 2, 2, .inl ik)), ((b 7), .inl (kk 0, 6, .inl jb))]) H := hP
      replace hD : va_D A ([(h, .inr (8, moF b (upd (upd q 0 0) 2 ((q 2) + 1)))), ((b 1), .inl (kk 0, 120, .inl (upd tx sz x))), ((b 2), .inl (kk 0, 64, .inl f)), ((b 3), .inl (kk 0, 64, .inl ft)), ((b 4), .inl (kk 0, 896, .inl dy)), ((b 5), .inl (kk 0, 128, .inl kp)), ((b 6), .inl (kk 2, 2, .inl ik)), ((b 7), .inl (kk 0, 6, .inl jb))]) := hD
      refine lv_aload_n hx hb dX8_append_59 rfl (lv_at hl 0 rfl) ?_
      refine r_get (v := .int ((q 2) + 1)) hx hb hts hown hK hP fl_X8_116 0 rfl rfl dX8_append_60 ?_
      exact fin_i hx hb hr hlocks hK (vP_eq (congrArg (fun z : Int32 × (Nat → Int32) × (Nat → Int32) => ([(h, .inr (8, moF b z.2.1)), ((b 1), .inl (kk 0, 120, .inl z.2.2)), ((b 2), .inl (kk 0, 64, .inl f)), ((b 3), .inl (kk 0, 64, .inl ft)), ((b 4), .inl (kk 0, 896, .inl dy)), ((b 5), .inl (kk 0, 128, .inl kp)), ((b 6), .inl (kk 2, 2, .inl ik)), ((b 7), .inl (kk 0, 6, .inl jb))] : va_W)) eS.symm) hP) (vD_eq (congrArg (fun z : Int32 × (Nat → Int32) × (Nat → Int32) => ([(h, .inr (8, moF b z.2.1)), ((b 1), .inl (kk 0, 120, .inl z.2.2)), ((b 2), .inl (kk 0, 64, .inl f)), ((b 3), .inl (kk 0, 64, .inl ft)), ((b 4), .inl (kk 0, 896, .inl dy)), ((b 5), .inl (kk 0, 128, .inl kp)), ((b 6), .inl (kk 2, 2, .inl ik)), ((b 7), .inl (kk 0, 6, .inl jb))] : va_W)) eS.symm) hD) hS (congrArg (fun z : Int32 × (Nat → Int32) × (Nat → Int32) => z.1) eS) dX8_append_63
    · have eS := eS.trans (if_pos c_23)
      refine lv_iconst (v := 2) hx hb dX8_append_26 (by decide) ?_
      refine lv_goto (tgt := 31) hx hb dX8_append_27 (by decide) ?_
      refine k_goI (k_runV (rest := []) (As := [.int 2]) hx hb hml hown hts hK hP hD hS hA hE hl.1 (c_X8_refused9 l G kk h b q 2) vl_X8_119 rfl rfl rfl ⟨Nat.le_of_ble_eq_true rfl, Nat.le_of_ble_eq_true rfl, rfl, rfl⟩ [0] rfl rfl ⟨Nat.zero_le _, Nat.zero_le _⟩ rfl (Nat.le_of_ble_eq_true rfl) dX8_append_31) hP hD hS hA [0] rfl ads1 (fun H locs hP hD hS => ?_)
      replace hP : va_P G vwCl ([(h, .inr (8, moF b (upd q 0 2))), ((b 1), .inl (kk 0, 120, .inl tx)), ((b 2), .inl (kk 0, 64, .inl f)), ((b 3), .inl (kk 0, 64, .inl ft)), ((b 4), .inl (kk 0, 896, .inl dy)), ((b 5), .inl (kk 0, 128, .inl kp)), ((b 6), .inl (kk 2, 2, .inl ik)), ((b 7), .inl (kk 0, 6, .inl jb))]) H := hP
      replace hD : va_D A ([(h, .inr (8, moF b (upd q 0 2))), ((b 1), .inl (kk 0, 120, .inl tx)), ((b 2), .inl (kk 0, 64, .inl f)), ((b 3), .inl (kk 0, 64, .inl ft)), ((b 4), .inl (kk 0, 896, .inl dy)), ((b 5), .inl (kk 0, 128, .inl kp)), ((b 6), .inl (kk 2, 2, .inl ik)), ((b 7), .inl (kk 0, 6, .inl jb))]) := hD
      refine top_eq (y := 1) (by decide) ?_
      refine lv_if_eq (tgt := 39) hx hb dX8_append_34 (by decide) (fun c_34 => absurd c_34 (by decide)) (fun c_34 => ?_)
      refine lv_iconst (v := 0) hx hb dX8_append_37 (by decide) ?_
      exact fin_i hx hb hr hlocks hK (vP_eq (congrArg (fun z : Int32 × (Nat → Int32) × (Nat → Int32) => ([(h, .inr (8, moF b z.2.1)), ((b 1), .inl (kk 0, 120, .inl z.2.2)), ((b 2), .inl (kk 0, 64, .inl f)), ((b 3), .inl (kk 0, 64, .inl ft)), ((b 4), .inl (kk 0, 896, .inl dy)), ((b 5), .inl (kk 0, 128, .inl kp)), ((b 6), .inl (kk 2, 2, .inl ik)), ((b 7), .inl (kk 0, 6, .inl jb))] : va_W)) eS.symm) hP) (vD_eq (congrArg (fun z : Int32 × (Nat → Int32) × (Nat → Int32) => ([(h, .inr (8, moF b z.2.1)), ((b 1), .inl (kk 0, 120, .inl z.2.2)), ((b 2), .inl (kk 0, 64, .inl f)), ((b 3), .inl (kk 0, 64, .inl ft)), ((b 4), .inl (kk 0, 896, .inl dy)), ((b 5), .inl (kk 0, 128, .inl kp)), ((b 6), .inl (kk 2, 2, .inl ik)), ((b 7), .inl (kk 0, 6, .inl jb))] : va_W)) eS.symm) hD) hS (congrArg (fun z : Int32 × (Nat → Int32) × (Nat → Int32) => z.1) eS) dX8_append_38
  · have eS := eS.trans (if_pos c_10)
    refine lv_iconst (v := 1) hx hb dX8_append_13 (by decide) ?_
    refine lv_goto (tgt := 31) hx hb dX8_append_14 (by decide) ?_
    refine k_goI (k_runV (rest := []) (As := [.int 1]) hx hb hml hown hts hK hP hD hS hA hE hl.1 (c_X8_refused9 l G kk h b q 1) vl_X8_119 rfl rfl rfl ⟨Nat.le_of_ble_eq_true rfl, Nat.le_of_ble_eq_true rfl, rfl, rfl⟩ [0] rfl rfl ⟨Nat.zero_le _, Nat.zero_le _⟩ rfl (Nat.le_of_ble_eq_true rfl) dX8_append_31) hP hD hS hA [0] rfl ads1 (fun H locs hP hD hS => ?_)
    replace hP : va_P G vwCl ([(h, .inr (8, moF b (upd q 0 1))), ((b 1), .inl (kk 0, 120, .inl tx)), ((b 2), .inl (kk 0, 64, .inl f)), ((b 3), .inl (kk 0, 64, .inl ft)), ((b 4), .inl (kk 0, 896, .inl dy)), ((b 5), .inl (kk 0, 128, .inl kp)), ((b 6), .inl (kk 2, 2, .inl ik)), ((b 7), .inl (kk 0, 6, .inl jb))]) H := hP
    replace hD : va_D A ([(h, .inr (8, moF b (upd q 0 1))), ((b 1), .inl (kk 0, 120, .inl tx)), ((b 2), .inl (kk 0, 64, .inl f)), ((b 3), .inl (kk 0, 64, .inl ft)), ((b 4), .inl (kk 0, 896, .inl dy)), ((b 5), .inl (kk 0, 128, .inl kp)), ((b 6), .inl (kk 2, 2, .inl ik)), ((b 7), .inl (kk 0, 6, .inl jb))]) := hD
    refine top_eq (y := 1) (by decide) ?_
    refine lv_if_eq (tgt := 39) hx hb dX8_append_34 (by decide) (fun c_34 => absurd c_34 (by decide)) (fun c_34 => ?_)
    refine lv_iconst (v := 0) hx hb dX8_append_37 (by decide) ?_
    exact fin_i hx hb hr hlocks hK (vP_eq (congrArg (fun z : Int32 × (Nat → Int32) × (Nat → Int32) => ([(h, .inr (8, moF b z.2.1)), ((b 1), .inl (kk 0, 120, .inl z.2.2)), ((b 2), .inl (kk 0, 64, .inl f)), ((b 3), .inl (kk 0, 64, .inl ft)), ((b 4), .inl (kk 0, 896, .inl dy)), ((b 5), .inl (kk 0, 128, .inl kp)), ((b 6), .inl (kk 2, 2, .inl ik)), ((b 7), .inl (kk 0, 6, .inl jb))] : va_W)) eS.symm) hP) (vD_eq (congrArg (fun z : Int32 × (Nat → Int32) × (Nat → Int32) => ([(h, .inr (8, moF b z.2.1)), ((b 1), .inl (kk 0, 120, .inl z.2.2)), ((b 2), .inl (kk 0, 64, .inl f)), ((b 3), .inl (kk 0, 64, .inl ft)), ((b 4), .inl (kk 0, 896, .inl dy)), ((b 5), .inl (kk 0, 128, .inl kp)), ((b 6), .inl (kk 2, 2, .inl ik)), ((b 7), .inl (kk 0, 6, .inl jb))] : va_W)) eS.symm) hD) hS (congrArg (fun z : Int32 × (Nat → Int32) × (Nat → Int32) => z.1) eS) dX8_append_38
def sX8_clearText (q : Nat → Int32) (tx : Nat → Int32) (f : Nat → Int32) (ft : Nat → Int32) (dy : Nat → Int32) (kp : Nat → Int32) (ik : Nat → Int32) (jb : Nat → Int32) : Int32 × (Nat → Int32) :=
  ((q 2), (upd (upd q 0 0) 2 0))
set_option maxRecDepth 100000 in
set_option maxHeartbeats 4000000 in
theorem c_X8_clearText (l : Launch) (G : va_G) (kk : Nat → ClassId) (h : Nat) (b : Nat → Nat) (q : Nat → Int32) (tx : Nat → Int32) (f : Nat → Int32) (ft : Nat → Int32) (dy : Nat → Int32) (kp : Nat → Int32) (ik : Nat → Int32) (jb : Nat → Int32)  : CC l yX8_clearText cX8_clearText 2 (some .int) (rmO 0 0) [.ref h] G kk ([(h, .inr (8, moF b q)), ((b 1), .inl (kk 0, 120, .inl tx)), ((b 2), .inl (kk 0, 64, .inl f)), ((b 3), .inl (kk 0, 64, .inl ft)), ((b 4), .inl (kk 0, 896, .inl dy)), ((b 5), .inl (kk 0, 128, .inl kp)), ((b 6), .inl (kk 2, 2, .inl ik)), ((b 7), .inl (kk 0, 6, .inl jb))]) (QI G kk ([(h, .inr (8, moF b ((sX8_clearText q tx f ft dy kp ik jb).2))), ((b 1), .inl (kk 0, 120, .inl tx)), ((b 2), .inl (kk 0, 64, .inl f)), ((b 3), .inl (kk 0, 64, .inl ft)), ((b 4), .inl (kk 0, 896, .inl dy)), ((b 5), .inl (kk 0, 128, .inl kp)), ((b 6), .inl (kk 2, 2, .inl ik)), ((b 7), .inl (kk 0, 6, .inl jb))]) ((sX8_clearText q tx f ft dy kp ik jb).1)) := by
  refine cc_start (by decide +kernel) (Nat.le_of_ble_eq_true rfl) ?_
  intro p e s m below meth c A ls hx hb hr hml hown hts hlocks hA hE hK hP hD hS hl
  have hown : s.vm.findClass RX8 = some m.cls := hown
  have hl : lv_has ls 2 [(0, .ref h)] := hl
  have eS : sX8_clearText q tx f ft dy kp ik jb = sX8_clearText q tx f ft dy kp ik jb := rfl
  refine lv_aload_n hx hb dX8_clearText_0 rfl (lv_at hl 0 rfl) ?_
  refine lv_iconst (v := 0) hx hb dX8_clearText_1 (by decide) ?_
  refine r_put hx hb hts hown hK hP hD hS fl_X8_36 fw_8_0 0 rfl rfl rfl (Nat.le_of_ble_eq_true rfl) dX8_clearText_2 (fun H locs hP hD hS => ?_)
  replace hP : va_P G vwCl ([(h, .inr (8, moF b (upd q 0 0))), ((b 1), .inl (kk 0, 120, .inl tx)), ((b 2), .inl (kk 0, 64, .inl f)), ((b 3), .inl (kk 0, 64, .inl ft)), ((b 4), .inl (kk 0, 896, .inl dy)), ((b 5), .inl (kk 0, 128, .inl kp)), ((b 6), .inl (kk 2, 2, .inl ik)), ((b 7), .inl (kk 0, 6, .inl jb))]) H := hP
  replace hD : va_D A ([(h, .inr (8, moF b (upd q 0 0))), ((b 1), .inl (kk 0, 120, .inl tx)), ((b 2), .inl (kk 0, 64, .inl f)), ((b 3), .inl (kk 0, 64, .inl ft)), ((b 4), .inl (kk 0, 896, .inl dy)), ((b 5), .inl (kk 0, 128, .inl kp)), ((b 6), .inl (kk 2, 2, .inl ik)), ((b 7), .inl (kk 0, 6, .inl jb))]) := hD
  refine lv_aload_n hx hb dX8_clearText_5 rfl (lv_at hl 0 rfl) ?_
  refine r_get (v := .int (q 2)) hx hb hts hown hK hP fl_X8_116 0 rfl rfl dX8_clearText_6 ?_
  refine lv_istore_n (lv' := [(1, .int (q 2)), (0, .ref h)]) hx hb dX8_clearText_9 rfl hl (by decide) rfl (fun ls hl => ?_)
  refine lv_aload_n hx hb dX8_clearText_10 rfl (lv_at hl 1 rfl) ?_
  refine lv_iconst (v := 0) hx hb dX8_clearText_11 (by decide) ?_
  refine r_put hx hb hts hown hK hP hD hS fl_X8_116 fw_8_2 0 rfl rfl rfl (Nat.le_of_ble_eq_true rfl) dX8_clearText_12 (fun H locs hP hD hS => ?_)
  replace hP : va_P G vwCl ([(h, .inr (8, moF b (upd (upd q 0 0) 2 0))), ((b 1), .inl (kk 0, 120, .inl tx)), ((b 2), .inl (kk 0, 64, .inl f)), ((b 3), .inl (kk 0, 64, .inl ft)), ((b 4), .inl (kk 0, 896, .inl dy)), ((b 5), .inl (kk 0, 128, .inl kp)), ((b 6), .inl (kk 2, 2, .inl ik)), ((b 7), .inl (kk 0, 6, .inl jb))]) H := hP
  replace hD : va_D A ([(h, .inr (8, moF b (upd (upd q 0 0) 2 0))), ((b 1), .inl (kk 0, 120, .inl tx)), ((b 2), .inl (kk 0, 64, .inl f)), ((b 3), .inl (kk 0, 64, .inl ft)), ((b 4), .inl (kk 0, 896, .inl dy)), ((b 5), .inl (kk 0, 128, .inl kp)), ((b 6), .inl (kk 2, 2, .inl ik)), ((b 7), .inl (kk 0, 6, .inl jb))]) := hD
  refine lv_iload_n hx hb dX8_clearText_15 rfl (lv_at hl 0 rfl) ?_
  exact fin_i hx hb hr hlocks hK (vP_eq (congrArg (fun z : Int32 × (Nat → Int32) => ([(h, .inr (8, moF b z.2)), ((b 1), .inl (kk 0, 120, .inl tx)), ((b 2), .inl (kk 0, 64, .inl f)), ((b 3), .inl (kk 0, 64, .inl ft)), ((b 4), .inl (kk 0, 896, .inl dy)), ((b 5), .inl (kk 0, 128, .inl kp)), ((b 6), .inl (kk 2, 2, .inl ik)), ((b 7), .inl (kk 0, 6, .inl jb))] : va_W)) eS.symm) hP) (vD_eq (congrArg (fun z : Int32 × (Nat → Int32) => ([(h, .inr (8, moF b z.2)), ((b 1), .inl (kk 0, 120, .inl tx)), ((b 2), .inl (kk 0, 64, .inl f)), ((b 3), .inl (kk 0, 64, .inl ft)), ((b 4), .inl (kk 0, 896, .inl dy)), ((b 5), .inl (kk 0, 128, .inl kp)), ((b 6), .inl (kk 2, 2, .inl ik)), ((b 7), .inl (kk 0, 6, .inl jb))] : va_W)) eS.symm) hD) hS (congrArg (fun z : Int32 × (Nat → Int32) => z.1) eS) dX8_clearText_16
def sX8_room (q : Nat → Int32) (tx : Nat → Int32) (f : Nat → Int32) (ft : Nat → Int32) (dy : Nat → Int32) (kp : Nat → Int32) (ik : Nat → Int32) (jb : Nat → Int32) (n : Nat) (x : Int32) (y : Int32) : Int32 × (Nat → Int32) :=
  (if (sX8_isRoom f x) = 0 then (0, (upd q 0 1)) else (if (sX8_in (y.toInt64) 0 7) = 0 then (0, (upd q 0 2)) else ((sX8_of f x.toNatClampNeg y.toNatClampNeg), (upd q 0 0))))
set_option maxRecDepth 100000 in
set_option maxHeartbeats 4000000 in
theorem c_X8_room (l : Launch) (G : va_G) (kk : Nat → ClassId) (h : Nat) (b : Nat → Nat) (q : Nat → Int32) (tx : Nat → Int32) (f : Nat → Int32) (ft : Nat → Int32) (dy : Nat → Int32) (kp : Nat → Int32) (ik : Nat → Int32) (jb : Nat → Int32) (n : Nat) (x : Int32) (y : Int32) (hn : f 0 = nI n) (h6 : n ≤ 6) : CC l yX8_room cX8_room 3 (some .int) (rmO 2 46) [.ref h, .int x, .int y] G kk ([(h, .inr (8, moF b q)), ((b 1), .inl (kk 0, 120, .inl tx)), ((b 2), .inl (kk 0, 64, .inl f)), ((b 3), .inl (kk 0, 64, .inl ft)), ((b 4), .inl (kk 0, 896, .inl dy)), ((b 5), .inl (kk 0, 128, .inl kp)), ((b 6), .inl (kk 2, 2, .inl ik)), ((b 7), .inl (kk 0, 6, .inl jb))]) (QI G kk ([(h, .inr (8, moF b ((sX8_room q tx f ft dy kp ik jb n x y).2))), ((b 1), .inl (kk 0, 120, .inl tx)), ((b 2), .inl (kk 0, 64, .inl f)), ((b 3), .inl (kk 0, 64, .inl ft)), ((b 4), .inl (kk 0, 896, .inl dy)), ((b 5), .inl (kk 0, 128, .inl kp)), ((b 6), .inl (kk 2, 2, .inl ik)), ((b 7), .inl (kk 0, 6, .inl jb))]) ((sX8_room q tx f ft dy kp ik jb n x y).1)) := by
  refine cc_start (by decide +kernel) (Nat.le_of_ble_eq_true rfl) ?_
  intro p e s m below meth c A ls hx hb hr hml hown hts hlocks hA hE hK hP hD hS hl
  have hown : s.vm.findClass RX8 = some m.cls := hown
  have hl : lv_has ls 3 [(0, .ref h), (1, .int x), (2, .int y)] := hl
  have eS : sX8_room q tx f ft dy kp ik jb n x y = sX8_room q tx f ft dy kp ik jb n x y := rfl
  refine lv_aload_n hx hb dX8_room_0 rfl (lv_at hl 0 rfl) ?_
  refine lv_aload_n hx hb dX8_room_1 rfl (lv_at hl 0 rfl) ?_
  refine r_get (v := .ref (b 2)) hx hb hts hown hK hP fl_X8_13 0 rfl rfl dX8_room_2 ?_
  refine lv_iload_n hx hb dX8_room_5 rfl (lv_at hl 1 rfl) ?_
  refine k_goI (k_runS (rest := [.ref h]) (As := [.ref (b 2), .int x]) hx hb hml hown hts hK hP hD hS hA hE hl.1 (c_X8_isRoom l G kk (b 2) f x ) sl_X8_158 ⟨Nat.le_of_ble_eq_true rfl, Nat.le_of_ble_eq_true rfl, rfl, rfl⟩ [2] rfl rfl ⟨Nat.zero_le _, Nat.zero_le _⟩ rfl (Nat.le_of_ble_eq_true rfl) dX8_room_6) hP hD hS hA [2] rfl ads1 (fun H locs hP hD hS => ?_)
  replace hP : va_P G vwCl ([(h, .inr (8, moF b q)), ((b 1), .inl (kk 0, 120, .inl tx)), ((b 2), .inl (kk 0, 64, .inl f)), ((b 3), .inl (kk 0, 64, .inl ft)), ((b 4), .inl (kk 0, 896, .inl dy)), ((b 5), .inl (kk 0, 128, .inl kp)), ((b 6), .inl (kk 2, 2, .inl ik)), ((b 7), .inl (kk 0, 6, .inl jb))]) H := hP
  replace hD : va_D A ([(h, .inr (8, moF b q)), ((b 1), .inl (kk 0, 120, .inl tx)), ((b 2), .inl (kk 0, 64, .inl f)), ((b 3), .inl (kk 0, 64, .inl ft)), ((b 4), .inl (kk 0, 896, .inl dy)), ((b 5), .inl (kk 0, 128, .inl kp)), ((b 6), .inl (kk 2, 2, .inl ik)), ((b 7), .inl (kk 0, 6, .inl jb))]) := hD
  refine lv_if_ne (tgt := 16) hx hb dX8_room_9 (by decide) (fun c_9 => ?_) (fun c_9 => ?_)
  · have eS := eS.trans (if_neg c_9)
    refine lv_iload_n hx hb dX8_room_16 rfl (lv_at hl 2 rfl) ?_
    refine lv_i2l (v := (y.toInt64)) hx hb dX8_room_17 (by first | rfl | decide) ?_
    refine lv_lconst (v := 0) hx hb dX8_room_18 rfl ?_
    refine lv_ldc2 (v := 7) hx hb hown (hts _ kl_X8_184) dX8_room_19 ?_
    refine k_goI (k_runS (rest := [.ref h]) (As := [.long (y.toInt64), .long 0, .long 7]) hx hb hml hown hts hK hP hD hS hA hE hl.1 (c_X8_in l G kk (y.toInt64) 0 7 ) sl_X8_40 ⟨Nat.le_of_ble_eq_true rfl, Nat.le_of_ble_eq_true rfl, rfl, rfl⟩ [] rfl rfl ⟨Nat.zero_le _, Nat.zero_le _⟩ rfl (Nat.le_of_ble_eq_true rfl) dX8_room_22) hP hD hS hA [] rfl ads0 (fun H locs hP hD hS => ?_)
    replace hP : va_P G vwCl ([(h, .inr (8, moF b q)), ((b 1), .inl (kk 0, 120, .inl tx)), ((b 2), .inl (kk 0, 64, .inl f)), ((b 3), .inl (kk 0, 64, .inl ft)), ((b 4), .inl (kk 0, 896, .inl dy)), ((b 5), .inl (kk 0, 128, .inl kp)), ((b 6), .inl (kk 2, 2, .inl ik)), ((b 7), .inl (kk 0, 6, .inl jb))]) H := hP
    replace hD : va_D A ([(h, .inr (8, moF b q)), ((b 1), .inl (kk 0, 120, .inl tx)), ((b 2), .inl (kk 0, 64, .inl f)), ((b 3), .inl (kk 0, 64, .inl ft)), ((b 4), .inl (kk 0, 896, .inl dy)), ((b 5), .inl (kk 0, 128, .inl kp)), ((b 6), .inl (kk 2, 2, .inl ik)), ((b 7), .inl (kk 0, 6, .inl jb))]) := hD
    refine lv_if_eq (tgt := 32) hx hb dX8_room_25 (by decide) (fun c_25 => ?_) (fun c_25 => ?_)
    · have eS := eS.trans (if_pos c_25)
      refine lv_iconst (v := 2) hx hb dX8_room_32 (by decide) ?_
      refine k_goI (k_runV (rest := []) (As := [.int 2]) hx hb hml hown hts hK hP hD hS hA hE hl.1 (c_X8_refused9 l G kk h b q 2) vl_X8_119 rfl rfl rfl ⟨Nat.le_of_ble_eq_true rfl, Nat.le_of_ble_eq_true rfl, rfl, rfl⟩ [0] rfl rfl ⟨Nat.zero_le _, Nat.zero_le _⟩ rfl (Nat.le_of_ble_eq_true rfl) dX8_room_33) hP hD hS hA [0] rfl ads1 (fun H locs hP hD hS => ?_)
      replace hP : va_P G vwCl ([(h, .inr (8, moF b (upd q 0 2))), ((b 1), .inl (kk 0, 120, .inl tx)), ((b 2), .inl (kk 0, 64, .inl f)), ((b 3), .inl (kk 0, 64, .inl ft)), ((b 4), .inl (kk 0, 896, .inl dy)), ((b 5), .inl (kk 0, 128, .inl kp)), ((b 6), .inl (kk 2, 2, .inl ik)), ((b 7), .inl (kk 0, 6, .inl jb))]) H := hP
      replace hD : va_D A ([(h, .inr (8, moF b (upd q 0 2))), ((b 1), .inl (kk 0, 120, .inl tx)), ((b 2), .inl (kk 0, 64, .inl f)), ((b 3), .inl (kk 0, 64, .inl ft)), ((b 4), .inl (kk 0, 896, .inl dy)), ((b 5), .inl (kk 0, 128, .inl kp)), ((b 6), .inl (kk 2, 2, .inl ik)), ((b 7), .inl (kk 0, 6, .inl jb))]) := hD
      refine top_eq (y := 1) (by decide) ?_
      refine lv_if_eq (tgt := 41) hx hb dX8_room_36 (by decide) (fun c_36 => absurd c_36 (by decide)) (fun c_36 => ?_)
      refine lv_iconst (v := 0) hx hb dX8_room_39 (by decide) ?_
      exact fin_i hx hb hr hlocks hK (vP_eq (congrArg (fun z : Int32 × (Nat → Int32) => ([(h, .inr (8, moF b z.2)), ((b 1), .inl (kk 0, 120, .inl tx)), ((b 2), .inl (kk 0, 64, .inl f)), ((b 3), .inl (kk 0, 64, .inl ft)), ((b 4), .inl (kk 0, 896, .inl dy)), ((b 5), .inl (kk 0, 128, .inl kp)), ((b 6), .inl (kk 2, 2, .inl ik)), ((b 7), .inl (kk 0, 6, .inl jb))] : va_W)) eS.symm) hP) (vD_eq (congrArg (fun z : Int32 × (Nat → Int32) => ([(h, .inr (8, moF b z.2)), ((b 1), .inl (kk 0, 120, .inl tx)), ((b 2), .inl (kk 0, 64, .inl f)), ((b 3), .inl (kk 0, 64, .inl ft)), ((b 4), .inl (kk 0, 896, .inl dy)), ((b 5), .inl (kk 0, 128, .inl kp)), ((b 6), .inl (kk 2, 2, .inl ik)), ((b 7), .inl (kk 0, 6, .inl jb))] : va_W)) eS.symm) hD) hS (congrArg (fun z : Int32 × (Nat → Int32) => z.1) eS) dX8_room_40
    · have eS := eS.trans (if_neg c_25)
      refine lv_iconst (v := 0) hx hb dX8_room_28 (by decide) ?_
      refine lv_goto (tgt := 33) hx hb dX8_room_29 (by decide) ?_
      refine k_goI (k_runV (rest := []) (As := [.int 0]) hx hb hml hown hts hK hP hD hS hA hE hl.1 (c_X8_refused9 l G kk h b q 0) vl_X8_119 rfl rfl rfl ⟨Nat.le_of_ble_eq_true rfl, Nat.le_of_ble_eq_true rfl, rfl, rfl⟩ [0] rfl rfl ⟨Nat.zero_le _, Nat.zero_le _⟩ rfl (Nat.le_of_ble_eq_true rfl) dX8_room_33) hP hD hS hA [0] rfl ads1 (fun H locs hP hD hS => ?_)
      replace hP : va_P G vwCl ([(h, .inr (8, moF b (upd q 0 0))), ((b 1), .inl (kk 0, 120, .inl tx)), ((b 2), .inl (kk 0, 64, .inl f)), ((b 3), .inl (kk 0, 64, .inl ft)), ((b 4), .inl (kk 0, 896, .inl dy)), ((b 5), .inl (kk 0, 128, .inl kp)), ((b 6), .inl (kk 2, 2, .inl ik)), ((b 7), .inl (kk 0, 6, .inl jb))]) H := hP
      replace hD : va_D A ([(h, .inr (8, moF b (upd q 0 0))), ((b 1), .inl (kk 0, 120, .inl tx)), ((b 2), .inl (kk 0, 64, .inl f)), ((b 3), .inl (kk 0, 64, .inl ft)), ((b 4), .inl (kk 0, 896, .inl dy)), ((b 5), .inl (kk 0, 128, .inl kp)), ((b 6), .inl (kk 2, 2, .inl ik)), ((b 7), .inl (kk 0, 6, .inl jb))]) := hD
      refine top_eq (y := 0) (by decide) ?_
      refine lv_if_eq (tgt := 41) hx hb dX8_room_36 (by decide) (fun c_36 => ?_) (fun c_36 => absurd (by decide) c_36)
      obtain ⟨hx1, hx2⟩ := isRoom_in hn h6 c_9
      have hw1 := in_n (n := 7) c_25 rfl
      refine lv_aload_n hx hb dX8_room_41 rfl (lv_at hl 0 rfl) ?_
      refine r_get (v := .ref (b 2)) hx hb hts hown hK hP fl_X8_13 0 rfl rfl dX8_room_42 ?_
      refine lv_iload_n hx hb dX8_room_45 rfl (lv_at hl 1 rfl) ?_
      refine top_eq (y := (nI x.toNatClampNeg)) (hx1) ?_
      refine lv_iload_n hx hb dX8_room_46 rfl (lv_at hl 2 rfl) ?_
      refine top_eq (y := (nI y.toNatClampNeg)) (hw1.1) ?_
      refine k_goI (k_runS (rest := []) (As := [.ref (b 2), .int (nI x.toNatClampNeg), .int (nI y.toNatClampNeg)]) hx hb hml hown hts hK hP hD hS hA hE hl.1 (c_X8_of l G kk (b 2) f x.toNatClampNeg y.toNatClampNeg (by have := hw1.2; omega)) sl_X8_44 ⟨Nat.le_of_ble_eq_true rfl, Nat.le_of_ble_eq_true rfl, rfl, rfl⟩ [2] rfl rfl ⟨Nat.zero_le _, Nat.zero_le _⟩ rfl (Nat.le_of_ble_eq_true rfl) dX8_room_47) hP hD hS hA [2] rfl ads1 (fun H locs hP hD hS => ?_)
      replace hP : va_P G vwCl ([(h, .inr (8, moF b (upd q 0 0))), ((b 1), .inl (kk 0, 120, .inl tx)), ((b 2), .inl (kk 0, 64, .inl f)), ((b 3), .inl (kk 0, 64, .inl ft)), ((b 4), .inl (kk 0, 896, .inl dy)), ((b 5), .inl (kk 0, 128, .inl kp)), ((b 6), .inl (kk 2, 2, .inl ik)), ((b 7), .inl (kk 0, 6, .inl jb))]) H := hP
      replace hD : va_D A ([(h, .inr (8, moF b (upd q 0 0))), ((b 1), .inl (kk 0, 120, .inl tx)), ((b 2), .inl (kk 0, 64, .inl f)), ((b 3), .inl (kk 0, 64, .inl ft)), ((b 4), .inl (kk 0, 896, .inl dy)), ((b 5), .inl (kk 0, 128, .inl kp)), ((b 6), .inl (kk 2, 2, .inl ik)), ((b 7), .inl (kk 0, 6, .inl jb))]) := hD
      exact fin_i hx hb hr hlocks hK (vP_eq (congrArg (fun z : Int32 × (Nat → Int32) => ([(h, .inr (8, moF b z.2)), ((b 1), .inl (kk 0, 120, .inl tx)), ((b 2), .inl (kk 0, 64, .inl f)), ((b 3), .inl (kk 0, 64, .inl ft)), ((b 4), .inl (kk 0, 896, .inl dy)), ((b 5), .inl (kk 0, 128, .inl kp)), ((b 6), .inl (kk 2, 2, .inl ik)), ((b 7), .inl (kk 0, 6, .inl jb))] : va_W)) eS.symm) hP) (vD_eq (congrArg (fun z : Int32 × (Nat → Int32) => ([(h, .inr (8, moF b z.2)), ((b 1), .inl (kk 0, 120, .inl tx)), ((b 2), .inl (kk 0, 64, .inl f)), ((b 3), .inl (kk 0, 64, .inl ft)), ((b 4), .inl (kk 0, 896, .inl dy)), ((b 5), .inl (kk 0, 128, .inl kp)), ((b 6), .inl (kk 2, 2, .inl ik)), ((b 7), .inl (kk 0, 6, .inl jb))] : va_W)) eS.symm) hD) hS (congrArg (fun z : Int32 × (Nat → Int32) => z.1) eS) dX8_room_50
  · have eS := eS.trans (if_pos c_9)
    refine lv_iconst (v := 1) hx hb dX8_room_12 (by decide) ?_
    refine lv_goto (tgt := 33) hx hb dX8_room_13 (by decide) ?_
    refine k_goI (k_runV (rest := []) (As := [.int 1]) hx hb hml hown hts hK hP hD hS hA hE hl.1 (c_X8_refused9 l G kk h b q 1) vl_X8_119 rfl rfl rfl ⟨Nat.le_of_ble_eq_true rfl, Nat.le_of_ble_eq_true rfl, rfl, rfl⟩ [0] rfl rfl ⟨Nat.zero_le _, Nat.zero_le _⟩ rfl (Nat.le_of_ble_eq_true rfl) dX8_room_33) hP hD hS hA [0] rfl ads1 (fun H locs hP hD hS => ?_)
    replace hP : va_P G vwCl ([(h, .inr (8, moF b (upd q 0 1))), ((b 1), .inl (kk 0, 120, .inl tx)), ((b 2), .inl (kk 0, 64, .inl f)), ((b 3), .inl (kk 0, 64, .inl ft)), ((b 4), .inl (kk 0, 896, .inl dy)), ((b 5), .inl (kk 0, 128, .inl kp)), ((b 6), .inl (kk 2, 2, .inl ik)), ((b 7), .inl (kk 0, 6, .inl jb))]) H := hP
    replace hD : va_D A ([(h, .inr (8, moF b (upd q 0 1))), ((b 1), .inl (kk 0, 120, .inl tx)), ((b 2), .inl (kk 0, 64, .inl f)), ((b 3), .inl (kk 0, 64, .inl ft)), ((b 4), .inl (kk 0, 896, .inl dy)), ((b 5), .inl (kk 0, 128, .inl kp)), ((b 6), .inl (kk 2, 2, .inl ik)), ((b 7), .inl (kk 0, 6, .inl jb))]) := hD
    refine top_eq (y := 1) (by decide) ?_
    refine lv_if_eq (tgt := 41) hx hb dX8_room_36 (by decide) (fun c_36 => absurd c_36 (by decide)) (fun c_36 => ?_)
    refine lv_iconst (v := 0) hx hb dX8_room_39 (by decide) ?_
    exact fin_i hx hb hr hlocks hK (vP_eq (congrArg (fun z : Int32 × (Nat → Int32) => ([(h, .inr (8, moF b z.2)), ((b 1), .inl (kk 0, 120, .inl tx)), ((b 2), .inl (kk 0, 64, .inl f)), ((b 3), .inl (kk 0, 64, .inl ft)), ((b 4), .inl (kk 0, 896, .inl dy)), ((b 5), .inl (kk 0, 128, .inl kp)), ((b 6), .inl (kk 2, 2, .inl ik)), ((b 7), .inl (kk 0, 6, .inl jb))] : va_W)) eS.symm) hP) (vD_eq (congrArg (fun z : Int32 × (Nat → Int32) => ([(h, .inr (8, moF b z.2)), ((b 1), .inl (kk 0, 120, .inl tx)), ((b 2), .inl (kk 0, 64, .inl f)), ((b 3), .inl (kk 0, 64, .inl ft)), ((b 4), .inl (kk 0, 896, .inl dy)), ((b 5), .inl (kk 0, 128, .inl kp)), ((b 6), .inl (kk 2, 2, .inl ik)), ((b 7), .inl (kk 0, 6, .inl jb))] : va_W)) eS.symm) hD) hS (congrArg (fun z : Int32 × (Nat → Int32) => z.1) eS) dX8_room_40
def sX8_does_z_1 (q : Nat → Int32) (tx : Nat → Int32) (f : Nat → Int32) (ft : Nat → Int32) (dy : Nat → Int32) (kp : Nat → Int32) (ik : Nat → Int32) (jb : Nat → Int32) (n : Nat) (x : Int32) (z_1 : (Nat → Int32) × (Nat → Int32)) : Int32 × (Nat → Int32) × (Nat → Int32) :=
  ((z_1.2 x.toNatClampNeg), z_1.1, z_1.2)
def sX8_does (q : Nat → Int32) (tx : Nat → Int32) (f : Nat → Int32) (ft : Nat → Int32) (dy : Nat → Int32) (kp : Nat → Int32) (ik : Nat → Int32) (jb : Nat → Int32) (n : Nat) (x : Int32) : Int32 × (Nat → Int32) × (Nat → Int32) :=
  (if (sX8_isRoom f x) = 0 then (0, (upd q 0 1), jb) else (sX8_does_z_1 q tx f ft dy kp ik jb n x (sX8_find (upd q 0 0) jb f n)))
set_option maxRecDepth 100000 in
set_option maxHeartbeats 4000000 in
theorem c_X8_does (l : Launch) (G : va_G) (kk : Nat → ClassId) (h : Nat) (b : Nat → Nat) (q : Nat → Int32) (tx : Nat → Int32) (f : Nat → Int32) (ft : Nat → Int32) (dy : Nat → Int32) (kp : Nat → Int32) (ik : Nat → Int32) (jb : Nat → Int32) (n : Nat) (x : Int32) (hn : f 0 = nI n) (h6 : n ≤ 6) : CC l yX8_does cX8_does 2 (some .int) (rmO 4 90) [.ref h, .int x] G kk ([(h, .inr (8, moF b q)), ((b 1), .inl (kk 0, 120, .inl tx)), ((b 2), .inl (kk 0, 64, .inl f)), ((b 3), .inl (kk 0, 64, .inl ft)), ((b 4), .inl (kk 0, 896, .inl dy)), ((b 5), .inl (kk 0, 128, .inl kp)), ((b 6), .inl (kk 2, 2, .inl ik)), ((b 7), .inl (kk 0, 6, .inl jb))]) (QI G kk ([(h, .inr (8, moF b ((sX8_does q tx f ft dy kp ik jb n x).2.1))), ((b 1), .inl (kk 0, 120, .inl tx)), ((b 2), .inl (kk 0, 64, .inl f)), ((b 3), .inl (kk 0, 64, .inl ft)), ((b 4), .inl (kk 0, 896, .inl dy)), ((b 5), .inl (kk 0, 128, .inl kp)), ((b 6), .inl (kk 2, 2, .inl ik)), ((b 7), .inl (kk 0, 6, .inl ((sX8_does q tx f ft dy kp ik jb n x).2.2)))]) ((sX8_does q tx f ft dy kp ik jb n x).1)) := by
  refine cc_start (by decide +kernel) (Nat.le_of_ble_eq_true rfl) ?_
  intro p e s m below meth c A ls hx hb hr hml hown hts hlocks hA hE hK hP hD hS hl
  have hown : s.vm.findClass RX8 = some m.cls := hown
  have hl : lv_has ls 2 [(0, .ref h), (1, .int x)] := hl
  have eS : sX8_does q tx f ft dy kp ik jb n x = sX8_does q tx f ft dy kp ik jb n x := rfl
  refine lv_aload_n hx hb dX8_does_0 rfl (lv_at hl 0 rfl) ?_
  refine lv_aload_n hx hb dX8_does_1 rfl (lv_at hl 0 rfl) ?_
  refine r_get (v := .ref (b 2)) hx hb hts hown hK hP fl_X8_13 0 rfl rfl dX8_does_2 ?_
  refine lv_iload_n hx hb dX8_does_5 rfl (lv_at hl 1 rfl) ?_
  refine k_goI (k_runS (rest := [.ref h]) (As := [.ref (b 2), .int x]) hx hb hml hown hts hK hP hD hS hA hE hl.1 (c_X8_isRoom l G kk (b 2) f x ) sl_X8_158 ⟨Nat.le_of_ble_eq_true rfl, Nat.le_of_ble_eq_true rfl, rfl, rfl⟩ [2] rfl rfl ⟨Nat.zero_le _, Nat.zero_le _⟩ rfl (Nat.le_of_ble_eq_true rfl) dX8_does_6) hP hD hS hA [2] rfl ads1 (fun H locs hP hD hS => ?_)
  replace hP : va_P G vwCl ([(h, .inr (8, moF b q)), ((b 1), .inl (kk 0, 120, .inl tx)), ((b 2), .inl (kk 0, 64, .inl f)), ((b 3), .inl (kk 0, 64, .inl ft)), ((b 4), .inl (kk 0, 896, .inl dy)), ((b 5), .inl (kk 0, 128, .inl kp)), ((b 6), .inl (kk 2, 2, .inl ik)), ((b 7), .inl (kk 0, 6, .inl jb))]) H := hP
  replace hD : va_D A ([(h, .inr (8, moF b q)), ((b 1), .inl (kk 0, 120, .inl tx)), ((b 2), .inl (kk 0, 64, .inl f)), ((b 3), .inl (kk 0, 64, .inl ft)), ((b 4), .inl (kk 0, 896, .inl dy)), ((b 5), .inl (kk 0, 128, .inl kp)), ((b 6), .inl (kk 2, 2, .inl ik)), ((b 7), .inl (kk 0, 6, .inl jb))]) := hD
  refine lv_if_eq (tgt := 16) hx hb dX8_does_9 (by decide) (fun c_9 => ?_) (fun c_9 => ?_)
  · have eS := eS.trans (if_pos c_9)
    refine lv_iconst (v := 1) hx hb dX8_does_16 (by decide) ?_
    refine k_goI (k_runV (rest := []) (As := [.int 1]) hx hb hml hown hts hK hP hD hS hA hE hl.1 (c_X8_refused9 l G kk h b q 1) vl_X8_119 rfl rfl rfl ⟨Nat.le_of_ble_eq_true rfl, Nat.le_of_ble_eq_true rfl, rfl, rfl⟩ [0] rfl rfl ⟨Nat.zero_le _, Nat.zero_le _⟩ rfl (Nat.le_of_ble_eq_true rfl) dX8_does_17) hP hD hS hA [0] rfl ads1 (fun H locs hP hD hS => ?_)
    replace hP : va_P G vwCl ([(h, .inr (8, moF b (upd q 0 1))), ((b 1), .inl (kk 0, 120, .inl tx)), ((b 2), .inl (kk 0, 64, .inl f)), ((b 3), .inl (kk 0, 64, .inl ft)), ((b 4), .inl (kk 0, 896, .inl dy)), ((b 5), .inl (kk 0, 128, .inl kp)), ((b 6), .inl (kk 2, 2, .inl ik)), ((b 7), .inl (kk 0, 6, .inl jb))]) H := hP
    replace hD : va_D A ([(h, .inr (8, moF b (upd q 0 1))), ((b 1), .inl (kk 0, 120, .inl tx)), ((b 2), .inl (kk 0, 64, .inl f)), ((b 3), .inl (kk 0, 64, .inl ft)), ((b 4), .inl (kk 0, 896, .inl dy)), ((b 5), .inl (kk 0, 128, .inl kp)), ((b 6), .inl (kk 2, 2, .inl ik)), ((b 7), .inl (kk 0, 6, .inl jb))]) := hD
    refine top_eq (y := 1) (by decide) ?_
    refine lv_if_eq (tgt := 25) hx hb dX8_does_20 (by decide) (fun c_20 => absurd c_20 (by decide)) (fun c_20 => ?_)
    refine lv_iconst (v := 0) hx hb dX8_does_23 (by decide) ?_
    exact fin_i hx hb hr hlocks hK (vP_eq (congrArg (fun z : Int32 × (Nat → Int32) × (Nat → Int32) => ([(h, .inr (8, moF b z.2.1)), ((b 1), .inl (kk 0, 120, .inl tx)), ((b 2), .inl (kk 0, 64, .inl f)), ((b 3), .inl (kk 0, 64, .inl ft)), ((b 4), .inl (kk 0, 896, .inl dy)), ((b 5), .inl (kk 0, 128, .inl kp)), ((b 6), .inl (kk 2, 2, .inl ik)), ((b 7), .inl (kk 0, 6, .inl z.2.2))] : va_W)) eS.symm) hP) (vD_eq (congrArg (fun z : Int32 × (Nat → Int32) × (Nat → Int32) => ([(h, .inr (8, moF b z.2.1)), ((b 1), .inl (kk 0, 120, .inl tx)), ((b 2), .inl (kk 0, 64, .inl f)), ((b 3), .inl (kk 0, 64, .inl ft)), ((b 4), .inl (kk 0, 896, .inl dy)), ((b 5), .inl (kk 0, 128, .inl kp)), ((b 6), .inl (kk 2, 2, .inl ik)), ((b 7), .inl (kk 0, 6, .inl z.2.2))] : va_W)) eS.symm) hD) hS (congrArg (fun z : Int32 × (Nat → Int32) × (Nat → Int32) => z.1) eS) dX8_does_24
  · have eS := eS.trans (if_neg c_9)
    refine lv_iconst (v := 0) hx hb dX8_does_12 (by decide) ?_
    refine lv_goto (tgt := 17) hx hb dX8_does_13 (by decide) ?_
    refine k_goI (k_runV (rest := []) (As := [.int 0]) hx hb hml hown hts hK hP hD hS hA hE hl.1 (c_X8_refused9 l G kk h b q 0) vl_X8_119 rfl rfl rfl ⟨Nat.le_of_ble_eq_true rfl, Nat.le_of_ble_eq_true rfl, rfl, rfl⟩ [0] rfl rfl ⟨Nat.zero_le _, Nat.zero_le _⟩ rfl (Nat.le_of_ble_eq_true rfl) dX8_does_17) hP hD hS hA [0] rfl ads1 (fun H locs hP hD hS => ?_)
    replace hP : va_P G vwCl ([(h, .inr (8, moF b (upd q 0 0))), ((b 1), .inl (kk 0, 120, .inl tx)), ((b 2), .inl (kk 0, 64, .inl f)), ((b 3), .inl (kk 0, 64, .inl ft)), ((b 4), .inl (kk 0, 896, .inl dy)), ((b 5), .inl (kk 0, 128, .inl kp)), ((b 6), .inl (kk 2, 2, .inl ik)), ((b 7), .inl (kk 0, 6, .inl jb))]) H := hP
    replace hD : va_D A ([(h, .inr (8, moF b (upd q 0 0))), ((b 1), .inl (kk 0, 120, .inl tx)), ((b 2), .inl (kk 0, 64, .inl f)), ((b 3), .inl (kk 0, 64, .inl ft)), ((b 4), .inl (kk 0, 896, .inl dy)), ((b 5), .inl (kk 0, 128, .inl kp)), ((b 6), .inl (kk 2, 2, .inl ik)), ((b 7), .inl (kk 0, 6, .inl jb))]) := hD
    refine top_eq (y := 0) (by decide) ?_
    refine lv_if_eq (tgt := 25) hx hb dX8_does_20 (by decide) (fun c_20 => ?_) (fun c_20 => absurd (by decide) c_20)
    obtain ⟨hx1, hx2⟩ := isRoom_in hn h6 c_9
    refine lv_aload_n hx hb dX8_does_25 rfl (lv_at hl 0 rfl) ?_
    refine lv_aload_n hx hb dX8_does_26 rfl (lv_at hl 0 rfl) ?_
    refine r_get (v := .ref (b 2)) hx hb hts hown hK hP fl_X8_13 0 rfl rfl dX8_does_27 ?_
    refine k_goV (k_runV (rest := []) (As := [.ref (b 2)]) hx hb hml hown hts hK hP hD hS hA hE hl.1 (c_X8_find l G kk h b (upd q 0 0) jb (b 2) f n hn h6) vl_X8_83 rfl rfl rfl ⟨Nat.le_of_ble_eq_true rfl, Nat.le_of_ble_eq_true rfl, rfl, rfl⟩ [0, 7, 2] rfl rfl ⟨Nat.zero_le _, Nat.zero_le _⟩ rfl (Nat.le_of_ble_eq_true rfl) dX8_does_30) hP hD hS hA [0, 7, 2] rfl ads3 (fun H locs hP hD hS => ?_)
    replace hP : va_P G vwCl ([(h, .inr (8, moF b ((sX8_find (upd q 0 0) jb f n).1))), ((b 1), .inl (kk 0, 120, .inl tx)), ((b 2), .inl (kk 0, 64, .inl f)), ((b 3), .inl (kk 0, 64, .inl ft)), ((b 4), .inl (kk 0, 896, .inl dy)), ((b 5), .inl (kk 0, 128, .inl kp)), ((b 6), .inl (kk 2, 2, .inl ik)), ((b 7), .inl (kk 0, 6, .inl ((sX8_find (upd q 0 0) jb f n).2)))]) H := hP
    replace hD : va_D A ([(h, .inr (8, moF b ((sX8_find (upd q 0 0) jb f n).1))), ((b 1), .inl (kk 0, 120, .inl tx)), ((b 2), .inl (kk 0, 64, .inl f)), ((b 3), .inl (kk 0, 64, .inl ft)), ((b 4), .inl (kk 0, 896, .inl dy)), ((b 5), .inl (kk 0, 128, .inl kp)), ((b 6), .inl (kk 2, 2, .inl ik)), ((b 7), .inl (kk 0, 6, .inl ((sX8_find (upd q 0 0) jb f n).2)))]) := hD
    have eS : sX8_does q tx f ft dy kp ik jb n x = sX8_does_z_1 q tx f ft dy kp ik jb n x (sX8_find (upd q 0 0) jb f n) := eS
    generalize sX8_find (upd q 0 0) jb f n = z_1 at hP hD eS ⊢
    refine lv_aload_n hx hb dX8_does_33 rfl (lv_at hl 0 rfl) ?_
    refine r_get (v := .ref (b 7)) hx hb hts hown hK hP fl_X8_29 0 rfl rfl dX8_does_34 ?_
    refine lv_iload_n hx hb dX8_does_37 rfl (lv_at hl 1 rfl) ?_
    refine top_eq (y := (nI x.toNatClampNeg)) (hx1) ?_
    refine r_iald hx hb hK hP 7 rfl x.toNatClampNeg rfl (by omega) (by decide) dX8_does_38 ?_
    exact fin_i hx hb hr hlocks hK (vP_eq (congrArg (fun z : Int32 × (Nat → Int32) × (Nat → Int32) => ([(h, .inr (8, moF b z.2.1)), ((b 1), .inl (kk 0, 120, .inl tx)), ((b 2), .inl (kk 0, 64, .inl f)), ((b 3), .inl (kk 0, 64, .inl ft)), ((b 4), .inl (kk 0, 896, .inl dy)), ((b 5), .inl (kk 0, 128, .inl kp)), ((b 6), .inl (kk 2, 2, .inl ik)), ((b 7), .inl (kk 0, 6, .inl z.2.2))] : va_W)) eS.symm) hP) (vD_eq (congrArg (fun z : Int32 × (Nat → Int32) × (Nat → Int32) => ([(h, .inr (8, moF b z.2.1)), ((b 1), .inl (kk 0, 120, .inl tx)), ((b 2), .inl (kk 0, 64, .inl f)), ((b 3), .inl (kk 0, 64, .inl ft)), ((b 4), .inl (kk 0, 896, .inl dy)), ((b 5), .inl (kk 0, 128, .inl kp)), ((b 6), .inl (kk 2, 2, .inl ik)), ((b 7), .inl (kk 0, 6, .inl z.2.2))] : va_W)) eS.symm) hD) hS (congrArg (fun z : Int32 × (Nat → Int32) × (Nat → Int32) => z.1) eS) dX8_does_39
def sX8_setting (q : Nat → Int32) (tx : Nat → Int32) (f : Nat → Int32) (ft : Nat → Int32) (dy : Nat → Int32) (kp : Nat → Int32) (ik : Nat → Int32) (jb : Nat → Int32) (x : Int32) : Int32 × (Nat → Int32) :=
  (if (sX8_in (x.toInt64) 0 5) = 0 then (0, (upd q 0 1)) else ((f (10 + x.toNatClampNeg)), (upd q 0 0)))
set_option maxRecDepth 100000 in
set_option maxHeartbeats 4000000 in
theorem c_X8_setting (l : Launch) (G : va_G) (kk : Nat → ClassId) (h : Nat) (b : Nat → Nat) (q : Nat → Int32) (tx : Nat → Int32) (f : Nat → Int32) (ft : Nat → Int32) (dy : Nat → Int32) (kp : Nat → Int32) (ik : Nat → Int32) (jb : Nat → Int32) (x : Int32)  : CC l yX8_setting cX8_setting 2 (some .int) (rmO 1 25) [.ref h, .int x] G kk ([(h, .inr (8, moF b q)), ((b 1), .inl (kk 0, 120, .inl tx)), ((b 2), .inl (kk 0, 64, .inl f)), ((b 3), .inl (kk 0, 64, .inl ft)), ((b 4), .inl (kk 0, 896, .inl dy)), ((b 5), .inl (kk 0, 128, .inl kp)), ((b 6), .inl (kk 2, 2, .inl ik)), ((b 7), .inl (kk 0, 6, .inl jb))]) (QI G kk ([(h, .inr (8, moF b ((sX8_setting q tx f ft dy kp ik jb x).2))), ((b 1), .inl (kk 0, 120, .inl tx)), ((b 2), .inl (kk 0, 64, .inl f)), ((b 3), .inl (kk 0, 64, .inl ft)), ((b 4), .inl (kk 0, 896, .inl dy)), ((b 5), .inl (kk 0, 128, .inl kp)), ((b 6), .inl (kk 2, 2, .inl ik)), ((b 7), .inl (kk 0, 6, .inl jb))]) ((sX8_setting q tx f ft dy kp ik jb x).1)) := by
  refine cc_start (by decide +kernel) (Nat.le_of_ble_eq_true rfl) ?_
  intro p e s m below meth c A ls hx hb hr hml hown hts hlocks hA hE hK hP hD hS hl
  have hown : s.vm.findClass RX8 = some m.cls := hown
  have hl : lv_has ls 2 [(0, .ref h), (1, .int x)] := hl
  have eS : sX8_setting q tx f ft dy kp ik jb x = sX8_setting q tx f ft dy kp ik jb x := rfl
  refine lv_aload_n hx hb dX8_setting_0 rfl (lv_at hl 0 rfl) ?_
  refine lv_iload_n hx hb dX8_setting_1 rfl (lv_at hl 1 rfl) ?_
  refine lv_i2l (v := (x.toInt64)) hx hb dX8_setting_2 (by first | rfl | decide) ?_
  refine lv_lconst (v := 0) hx hb dX8_setting_3 rfl ?_
  refine lv_ldc2 (v := 5) hx hb hown (hts _ kl_X8_102) dX8_setting_4 ?_
  refine k_goI (k_runS (rest := [.ref h]) (As := [.long (x.toInt64), .long 0, .long 5]) hx hb hml hown hts hK hP hD hS hA hE hl.1 (c_X8_in l G kk (x.toInt64) 0 5 ) sl_X8_40 ⟨Nat.le_of_ble_eq_true rfl, Nat.le_of_ble_eq_true rfl, rfl, rfl⟩ [] rfl rfl ⟨Nat.zero_le _, Nat.zero_le _⟩ rfl (Nat.le_of_ble_eq_true rfl) dX8_setting_7) hP hD hS hA [] rfl ads0 (fun H locs hP hD hS => ?_)
  replace hP : va_P G vwCl ([(h, .inr (8, moF b q)), ((b 1), .inl (kk 0, 120, .inl tx)), ((b 2), .inl (kk 0, 64, .inl f)), ((b 3), .inl (kk 0, 64, .inl ft)), ((b 4), .inl (kk 0, 896, .inl dy)), ((b 5), .inl (kk 0, 128, .inl kp)), ((b 6), .inl (kk 2, 2, .inl ik)), ((b 7), .inl (kk 0, 6, .inl jb))]) H := hP
  replace hD : va_D A ([(h, .inr (8, moF b q)), ((b 1), .inl (kk 0, 120, .inl tx)), ((b 2), .inl (kk 0, 64, .inl f)), ((b 3), .inl (kk 0, 64, .inl ft)), ((b 4), .inl (kk 0, 896, .inl dy)), ((b 5), .inl (kk 0, 128, .inl kp)), ((b 6), .inl (kk 2, 2, .inl ik)), ((b 7), .inl (kk 0, 6, .inl jb))]) := hD
  refine lv_if_eq (tgt := 17) hx hb dX8_setting_10 (by decide) (fun c_10 => ?_) (fun c_10 => ?_)
  · have eS := eS.trans (if_pos c_10)
    refine lv_iconst (v := 1) hx hb dX8_setting_17 (by decide) ?_
    refine k_goI (k_runV (rest := []) (As := [.int 1]) hx hb hml hown hts hK hP hD hS hA hE hl.1 (c_X8_refused9 l G kk h b q 1) vl_X8_119 rfl rfl rfl ⟨Nat.le_of_ble_eq_true rfl, Nat.le_of_ble_eq_true rfl, rfl, rfl⟩ [0] rfl rfl ⟨Nat.zero_le _, Nat.zero_le _⟩ rfl (Nat.le_of_ble_eq_true rfl) dX8_setting_18) hP hD hS hA [0] rfl ads1 (fun H locs hP hD hS => ?_)
    replace hP : va_P G vwCl ([(h, .inr (8, moF b (upd q 0 1))), ((b 1), .inl (kk 0, 120, .inl tx)), ((b 2), .inl (kk 0, 64, .inl f)), ((b 3), .inl (kk 0, 64, .inl ft)), ((b 4), .inl (kk 0, 896, .inl dy)), ((b 5), .inl (kk 0, 128, .inl kp)), ((b 6), .inl (kk 2, 2, .inl ik)), ((b 7), .inl (kk 0, 6, .inl jb))]) H := hP
    replace hD : va_D A ([(h, .inr (8, moF b (upd q 0 1))), ((b 1), .inl (kk 0, 120, .inl tx)), ((b 2), .inl (kk 0, 64, .inl f)), ((b 3), .inl (kk 0, 64, .inl ft)), ((b 4), .inl (kk 0, 896, .inl dy)), ((b 5), .inl (kk 0, 128, .inl kp)), ((b 6), .inl (kk 2, 2, .inl ik)), ((b 7), .inl (kk 0, 6, .inl jb))]) := hD
    refine top_eq (y := 1) (by decide) ?_
    refine lv_if_eq (tgt := 26) hx hb dX8_setting_21 (by decide) (fun c_21 => absurd c_21 (by decide)) (fun c_21 => ?_)
    refine lv_iconst (v := 0) hx hb dX8_setting_24 (by decide) ?_
    exact fin_i hx hb hr hlocks hK (vP_eq (congrArg (fun z : Int32 × (Nat → Int32) => ([(h, .inr (8, moF b z.2)), ((b 1), .inl (kk 0, 120, .inl tx)), ((b 2), .inl (kk 0, 64, .inl f)), ((b 3), .inl (kk 0, 64, .inl ft)), ((b 4), .inl (kk 0, 896, .inl dy)), ((b 5), .inl (kk 0, 128, .inl kp)), ((b 6), .inl (kk 2, 2, .inl ik)), ((b 7), .inl (kk 0, 6, .inl jb))] : va_W)) eS.symm) hP) (vD_eq (congrArg (fun z : Int32 × (Nat → Int32) => ([(h, .inr (8, moF b z.2)), ((b 1), .inl (kk 0, 120, .inl tx)), ((b 2), .inl (kk 0, 64, .inl f)), ((b 3), .inl (kk 0, 64, .inl ft)), ((b 4), .inl (kk 0, 896, .inl dy)), ((b 5), .inl (kk 0, 128, .inl kp)), ((b 6), .inl (kk 2, 2, .inl ik)), ((b 7), .inl (kk 0, 6, .inl jb))] : va_W)) eS.symm) hD) hS (congrArg (fun z : Int32 × (Nat → Int32) => z.1) eS) dX8_setting_25
  · have eS := eS.trans (if_neg c_10)
    refine lv_iconst (v := 0) hx hb dX8_setting_13 (by decide) ?_
    refine lv_goto (tgt := 18) hx hb dX8_setting_14 (by decide) ?_
    refine k_goI (k_runV (rest := []) (As := [.int 0]) hx hb hml hown hts hK hP hD hS hA hE hl.1 (c_X8_refused9 l G kk h b q 0) vl_X8_119 rfl rfl rfl ⟨Nat.le_of_ble_eq_true rfl, Nat.le_of_ble_eq_true rfl, rfl, rfl⟩ [0] rfl rfl ⟨Nat.zero_le _, Nat.zero_le _⟩ rfl (Nat.le_of_ble_eq_true rfl) dX8_setting_18) hP hD hS hA [0] rfl ads1 (fun H locs hP hD hS => ?_)
    replace hP : va_P G vwCl ([(h, .inr (8, moF b (upd q 0 0))), ((b 1), .inl (kk 0, 120, .inl tx)), ((b 2), .inl (kk 0, 64, .inl f)), ((b 3), .inl (kk 0, 64, .inl ft)), ((b 4), .inl (kk 0, 896, .inl dy)), ((b 5), .inl (kk 0, 128, .inl kp)), ((b 6), .inl (kk 2, 2, .inl ik)), ((b 7), .inl (kk 0, 6, .inl jb))]) H := hP
    replace hD : va_D A ([(h, .inr (8, moF b (upd q 0 0))), ((b 1), .inl (kk 0, 120, .inl tx)), ((b 2), .inl (kk 0, 64, .inl f)), ((b 3), .inl (kk 0, 64, .inl ft)), ((b 4), .inl (kk 0, 896, .inl dy)), ((b 5), .inl (kk 0, 128, .inl kp)), ((b 6), .inl (kk 2, 2, .inl ik)), ((b 7), .inl (kk 0, 6, .inl jb))]) := hD
    refine top_eq (y := 0) (by decide) ?_
    refine lv_if_eq (tgt := 26) hx hb dX8_setting_21 (by decide) (fun c_21 => ?_) (fun c_21 => absurd (by decide) c_21)
    obtain ⟨hx1, hx2⟩ := in_n (n := 5) c_10 rfl
    refine lv_aload_n hx hb dX8_setting_26 rfl (lv_at hl 0 rfl) ?_
    refine r_get (v := .ref (b 2)) hx hb hts hown hK hP fl_X8_13 0 rfl rfl dX8_setting_27 ?_
    refine lv_bipush (v := 10) hx hb dX8_setting_30 (by decide) ?_
    refine lv_iload_n hx hb dX8_setting_32 rfl (lv_at hl 1 rfl) ?_
    refine top_eq (y := (nI x.toNatClampNeg)) (hx1) ?_
    refine lv_iadd hx hb dX8_setting_33 ?_
    refine top_eq (nI_add 10 x.toNatClampNeg) ?_
    refine r_iald hx hb hK hP 2 rfl (10 + x.toNatClampNeg) rfl (by omega) (by decide) dX8_setting_34 ?_
    exact fin_i hx hb hr hlocks hK (vP_eq (congrArg (fun z : Int32 × (Nat → Int32) => ([(h, .inr (8, moF b z.2)), ((b 1), .inl (kk 0, 120, .inl tx)), ((b 2), .inl (kk 0, 64, .inl f)), ((b 3), .inl (kk 0, 64, .inl ft)), ((b 4), .inl (kk 0, 896, .inl dy)), ((b 5), .inl (kk 0, 128, .inl kp)), ((b 6), .inl (kk 2, 2, .inl ik)), ((b 7), .inl (kk 0, 6, .inl jb))] : va_W)) eS.symm) hP) (vD_eq (congrArg (fun z : Int32 × (Nat → Int32) => ([(h, .inr (8, moF b z.2)), ((b 1), .inl (kk 0, 120, .inl tx)), ((b 2), .inl (kk 0, 64, .inl f)), ((b 3), .inl (kk 0, 64, .inl ft)), ((b 4), .inl (kk 0, 896, .inl dy)), ((b 5), .inl (kk 0, 128, .inl kp)), ((b 6), .inl (kk 2, 2, .inl ik)), ((b 7), .inl (kk 0, 6, .inl jb))] : va_W)) eS.symm) hD) hS (congrArg (fun z : Int32 × (Nat → Int32) => z.1) eS) dX8_setting_35
def sX8_remember_z_1 (q : Nat → Int32) (tx : Nat → Int32) (f : Nat → Int32) (ft : Nat → Int32) (dy : Nat → Int32) (kp : Nat → Int32) (ik : Nat → Int32) (jb : Nat → Int32) (cc : Nat) (z_1 : (Nat → Int32)) : (Nat → Int32) × (Nat → Int32) :=
  ((upd q 6 ((q 6) + 1)), z_1)
def sX8_remember_z_2 (q : Nat → Int32) (tx : Nat → Int32) (f : Nat → Int32) (ft : Nat → Int32) (dy : Nat → Int32) (kp : Nat → Int32) (ik : Nat → Int32) (jb : Nat → Int32) (cc : Nat) (i : Nat) (dy1 : Nat → Int32) (z_2 : (Nat → Int32)) : (Nat → Int32) × (Nat → Int32) :=
  ((upd q 6 14), z_2)
def lp_X8_remember_11 (q : Nat → Int32) (tx : Nat → Int32) (f : Nat → Int32) (ft : Nat → Int32) (dy : Nat → Int32) (kp : Nat → Int32) (ik : Nat → Int32) (jb : Nat → Int32) (cc : Nat) : Nat → Nat → (Nat → Int32) → (Nat → Int32) × (Nat → Int32)
  | 0, i, dy1 => (sX8_remember_z_2 q tx f ft dy kp ik jb cc i dy1 (sX8_copyState 0 832 f dy1))
  | d + 1, i, dy1 => (lp_X8_remember_11 q tx f ft dy kp ik jb cc d (i + 1) (upd dy1 i (dy1 (i + 64))))
def sX8_remember (q : Nat → Int32) (tx : Nat → Int32) (f : Nat → Int32) (ft : Nat → Int32) (dy : Nat → Int32) (kp : Nat → Int32) (ik : Nat → Int32) (jb : Nat → Int32) (cc : Nat) : (Nat → Int32) × (Nat → Int32) :=
  (if (nI cc) = 14 then (lp_X8_remember_11 q tx f ft dy kp ik jb cc 832 0 dy) else (sX8_remember_z_1 q tx f ft dy kp ik jb cc (sX8_copyState 0 (64 * cc) f dy)))
set_option maxRecDepth 100000 in
set_option maxHeartbeats 4000000 in
theorem c_X8_remember (l : Launch) (G : va_G) (kk : Nat → ClassId) (h : Nat) (b : Nat → Nat) (q : Nat → Int32) (tx : Nat → Int32) (f : Nat → Int32) (ft : Nat → Int32) (dy : Nat → Int32) (kp : Nat → Int32) (ik : Nat → Int32) (jb : Nat → Int32) (cc : Nat) (hq : q 6 = nI cc) (hc : cc ≤ 14) : CC l yX8_remember cX8_remember 2 none (rmO 1 24) [.ref h] G kk ([(h, .inr (8, moF b q)), ((b 1), .inl (kk 0, 120, .inl tx)), ((b 2), .inl (kk 0, 64, .inl f)), ((b 3), .inl (kk 0, 64, .inl ft)), ((b 4), .inl (kk 0, 896, .inl dy)), ((b 5), .inl (kk 0, 128, .inl kp)), ((b 6), .inl (kk 2, 2, .inl ik)), ((b 7), .inl (kk 0, 6, .inl jb))]) (QV G kk ([(h, .inr (8, moF b ((sX8_remember q tx f ft dy kp ik jb cc).1))), ((b 1), .inl (kk 0, 120, .inl tx)), ((b 2), .inl (kk 0, 64, .inl f)), ((b 3), .inl (kk 0, 64, .inl ft)), ((b 4), .inl (kk 0, 896, .inl ((sX8_remember q tx f ft dy kp ik jb cc).2))), ((b 5), .inl (kk 0, 128, .inl kp)), ((b 6), .inl (kk 2, 2, .inl ik)), ((b 7), .inl (kk 0, 6, .inl jb))])) := by
  refine cc_start (by decide +kernel) (Nat.le_of_ble_eq_true rfl) ?_
  intro p e s m below meth c A ls hx hb hr hml hown hts hlocks hA hE hK hP hD hS hl
  have hown : s.vm.findClass RX8 = some m.cls := hown
  have hl : lv_has ls 2 [(0, .ref h)] := hl
  have eS : sX8_remember q tx f ft dy kp ik jb cc = sX8_remember q tx f ft dy kp ik jb cc := rfl
  refine lv_aload_n hx hb dX8_remember_0 rfl (lv_at hl 0 rfl) ?_
  refine r_get (v := .int (q 6)) hx hb hts hown hK hP fl_X8_179 0 rfl rfl dX8_remember_1 ?_
  refine top_eq (y := (nI cc)) (hq) ?_
  refine lv_bipush (v := 14) hx hb dX8_remember_4 (by decide) ?_
  refine lv_icmp_ne (tgt := 49) hx hb dX8_remember_6 (by decide) (fun c_6 => ?_) (fun c_6 => ?_)
  · have eS := eS.trans (if_neg c_6)
    refine lv_aload_n hx hb dX8_remember_49 rfl (lv_at hl 0 rfl) ?_
    refine r_get (v := .ref (b 2)) hx hb hts hown hK hP fl_X8_13 0 rfl rfl dX8_remember_50 ?_
    refine lv_iconst (v := 0) hx hb dX8_remember_53 (by decide) ?_
    refine lv_aload_n hx hb dX8_remember_54 rfl (lv_at hl 0 rfl) ?_
    refine r_get (v := .ref (b 4)) hx hb hts hown hK hP fl_X8_19 0 rfl rfl dX8_remember_55 ?_
    refine lv_bipush (v := 64) hx hb dX8_remember_58 (by decide) ?_
    refine lv_aload_n hx hb dX8_remember_60 rfl (lv_at hl 0 rfl) ?_
    refine r_get (v := .int (q 6)) hx hb hts hown hK hP fl_X8_179 0 rfl rfl dX8_remember_61 ?_
    refine top_eq (y := (nI cc)) (hq) ?_
    refine lv_imul hx hb dX8_remember_64 ?_
    refine top_eq (pk_mul 64 cc) ?_
    refine k_goV (k_runS (rest := []) (As := [.ref (b 2), .int 0, .ref (b 4), .int (nI (64 * cc))]) hx hb hml hown hts hK hP hD hS hA hE hl.1 (c_X8_copyState l G kk (b 2) 0 (b 4) (64 * cc) 64 896 f dy (by omega) (by first | omega | (have := c14 hc c_6; omega)) (by decide) (by decide)) sl_X8_175 ⟨Nat.le_of_ble_eq_true rfl, Nat.le_of_ble_eq_true rfl, rfl, rfl⟩ [2, 4] rfl rfl ⟨Nat.zero_le _, Nat.zero_le _⟩ rfl (Nat.le_of_ble_eq_true rfl) dX8_remember_65) hP hD hS hA [2, 4] rfl ads2 (fun H locs hP hD hS => ?_)
    replace hP : va_P G vwCl ([(h, .inr (8, moF b q)), ((b 1), .inl (kk 0, 120, .inl tx)), ((b 2), .inl (kk 0, 64, .inl f)), ((b 3), .inl (kk 0, 64, .inl ft)), ((b 4), .inl (kk 0, 896, .inl (sX8_copyState 0 (64 * cc) f dy))), ((b 5), .inl (kk 0, 128, .inl kp)), ((b 6), .inl (kk 2, 2, .inl ik)), ((b 7), .inl (kk 0, 6, .inl jb))]) H := hP
    replace hD : va_D A ([(h, .inr (8, moF b q)), ((b 1), .inl (kk 0, 120, .inl tx)), ((b 2), .inl (kk 0, 64, .inl f)), ((b 3), .inl (kk 0, 64, .inl ft)), ((b 4), .inl (kk 0, 896, .inl (sX8_copyState 0 (64 * cc) f dy))), ((b 5), .inl (kk 0, 128, .inl kp)), ((b 6), .inl (kk 2, 2, .inl ik)), ((b 7), .inl (kk 0, 6, .inl jb))]) := hD
    have eS : sX8_remember q tx f ft dy kp ik jb cc = sX8_remember_z_1 q tx f ft dy kp ik jb cc (sX8_copyState 0 (64 * cc) f dy) := eS
    generalize sX8_copyState 0 (64 * cc) f dy = z_1 at hP hD eS ⊢
    refine lv_aload_n hx hb dX8_remember_68 rfl (lv_at hl 0 rfl) ?_
    refine lv_dup hx hb dX8_remember_69 rfl ?_
    refine r_get (v := .int (q 6)) hx hb hts hown hK hP fl_X8_179 0 rfl rfl dX8_remember_70 ?_
    refine lv_iconst (v := 1) hx hb dX8_remember_73 (by decide) ?_
    refine lv_iadd hx hb dX8_remember_74 ?_
    refine r_put hx hb hts hown hK hP hD hS fl_X8_179 fw_8_6 0 rfl rfl rfl (Nat.le_of_ble_eq_true rfl) dX8_remember_75 (fun H locs hP hD hS => ?_)
    replace hP : va_P G vwCl ([(h, .inr (8, moF b (upd q 6 ((q 6) + 1)))), ((b 1), .inl (kk 0, 120, .inl tx)), ((b 2), .inl (kk 0, 64, .inl f)), ((b 3), .inl (kk 0, 64, .inl ft)), ((b 4), .inl (kk 0, 896, .inl z_1)), ((b 5), .inl (kk 0, 128, .inl kp)), ((b 6), .inl (kk 2, 2, .inl ik)), ((b 7), .inl (kk 0, 6, .inl jb))]) H := hP
    replace hD : va_D A ([(h, .inr (8, moF b (upd q 6 ((q 6) + 1)))), ((b 1), .inl (kk 0, 120, .inl tx)), ((b 2), .inl (kk 0, 64, .inl f)), ((b 3), .inl (kk 0, 64, .inl ft)), ((b 4), .inl (kk 0, 896, .inl z_1)), ((b 5), .inl (kk 0, 128, .inl kp)), ((b 6), .inl (kk 2, 2, .inl ik)), ((b 7), .inl (kk 0, 6, .inl jb))]) := hD
    exact fin_v hx hb hr hlocks hK (vP_eq (congrArg (fun z : (Nat → Int32) × (Nat → Int32) => ([(h, .inr (8, moF b z.1)), ((b 1), .inl (kk 0, 120, .inl tx)), ((b 2), .inl (kk 0, 64, .inl f)), ((b 3), .inl (kk 0, 64, .inl ft)), ((b 4), .inl (kk 0, 896, .inl z.2)), ((b 5), .inl (kk 0, 128, .inl kp)), ((b 6), .inl (kk 2, 2, .inl ik)), ((b 7), .inl (kk 0, 6, .inl jb))] : va_W)) eS.symm) hP) (vD_eq (congrArg (fun z : (Nat → Int32) × (Nat → Int32) => ([(h, .inr (8, moF b z.1)), ((b 1), .inl (kk 0, 120, .inl tx)), ((b 2), .inl (kk 0, 64, .inl f)), ((b 3), .inl (kk 0, 64, .inl ft)), ((b 4), .inl (kk 0, 896, .inl z.2)), ((b 5), .inl (kk 0, 128, .inl kp)), ((b 6), .inl (kk 2, 2, .inl ik)), ((b 7), .inl (kk 0, 6, .inl jb))] : va_W)) eS.symm) hD) hS dX8_remember_78
  · have eS := eS.trans (if_pos c_6)
    refine lv_iconst (v := 0) hx hb dX8_remember_9 (by decide) ?_
    refine lv_istore_n (lv' := [(1, .int 0), (0, .ref h)]) hx hb dX8_remember_10 rfl hl (by decide) rfl (fun ls hl => ?_)
    have L_3 : ∀ (d : Nat) (i : Nat) (dy1 : Nat → Int32) (hd : i + d = 832) (eS : sX8_remember q tx f ft dy kp ik jb cc = lp_X8_remember_11 q tx f ft dy kp ik jb cc d i dy1) (H : Heap) (locs : List Loc) (ls : Array Slot) (hP : va_P G vwCl ([(h, .inr (8, moF b q)), ((b 1), .inl (kk 0, 120, .inl tx)), ((b 2), .inl (kk 0, 64, .inl f)), ((b 3), .inl (kk 0, 64, .inl ft)), ((b 4), .inl (kk 0, 896, .inl dy1)), ((b 5), .inl (kk 0, 128, .inl kp)), ((b 6), .inl (kk 2, 2, .inl ik)), ((b 7), .inl (kk 0, 6, .inl jb))]) H) (hD : va_D A ([(h, .inr (8, moF b q)), ((b 1), .inl (kk 0, 120, .inl tx)), ((b 2), .inl (kk 0, 64, .inl f)), ((b 3), .inl (kk 0, 64, .inl ft)), ((b 4), .inl (kk 0, 896, .inl dy1)), ((b 5), .inl (kk 0, 128, .inl kp)), ((b 6), .inl (kk 2, 2, .inl ik)), ((b 7), .inl (kk 0, 6, .inl jb))])) (hS : va_S A s.heap H locs) (hl : lv_has ls 2 [(0, .ref h), (1, .int (nI i))]), GO p l e (rmO 1 24) s m ([.ref h] : List Value).toArray below meth c A (QV G kk ([(h, .inr (8, moF b ((sX8_remember q tx f ft dy kp ik jb cc).1))), ((b 1), .inl (kk 0, 120, .inl tx)), ((b 2), .inl (kk 0, 64, .inl f)), ((b 3), .inl (kk 0, 64, .inl ft)), ((b 4), .inl (kk 0, 896, .inl ((sX8_remember q tx f ft dy kp ik jb cc).2))), ((b 5), .inl (kk 0, 128, .inl kp)), ((b 6), .inl (kk 2, 2, .inl ik)), ((b 7), .inl (kk 0, 6, .inl jb))])) H locs (F0 m 11 ls []) := by
      intro d
      induction d with
      | zero =>
        intro i dy1 hd eS H locs ls hP hD hS hl
        refine lv_iload_n hx hb dX8_remember_11 rfl (lv_at hl 1 rfl) ?_
        refine lv_sipush (v := 832) hx hb dX8_remember_12 (by decide) ?_
        refine lv_icmp_ge (tgt := 39) hx hb dX8_remember_15 (by decide) (fun c_15 => ?_) (fun c_15 => absurd (nI_le (a := 832) (b := i) (by omega) (by omega)) c_15)
        refine lv_aload_n hx hb dX8_remember_39 rfl (lv_at hl 0 rfl) ?_
        refine lv_dup hx hb dX8_remember_40 rfl ?_
        refine r_get (v := .int (q 6)) hx hb hts hown hK hP fl_X8_179 0 rfl rfl dX8_remember_41 ?_
        refine top_eq (y := 14) (hq.trans c_6) ?_
        refine lv_iconst (v := 1) hx hb dX8_remember_44 (by decide) ?_
        refine lv_isub hx hb dX8_remember_45 ?_
        refine top_eq (y := 13) ((by decide)) ?_
        refine r_put hx hb hts hown hK hP hD hS fl_X8_179 fw_8_6 0 rfl rfl rfl (Nat.le_of_ble_eq_true rfl) dX8_remember_46 (fun H locs hP hD hS => ?_)
        replace hP : va_P G vwCl ([(h, .inr (8, moF b (upd q 6 13))), ((b 1), .inl (kk 0, 120, .inl tx)), ((b 2), .inl (kk 0, 64, .inl f)), ((b 3), .inl (kk 0, 64, .inl ft)), ((b 4), .inl (kk 0, 896, .inl dy1)), ((b 5), .inl (kk 0, 128, .inl kp)), ((b 6), .inl (kk 2, 2, .inl ik)), ((b 7), .inl (kk 0, 6, .inl jb))]) H := hP
        replace hD : va_D A ([(h, .inr (8, moF b (upd q 6 13))), ((b 1), .inl (kk 0, 120, .inl tx)), ((b 2), .inl (kk 0, 64, .inl f)), ((b 3), .inl (kk 0, 64, .inl ft)), ((b 4), .inl (kk 0, 896, .inl dy1)), ((b 5), .inl (kk 0, 128, .inl kp)), ((b 6), .inl (kk 2, 2, .inl ik)), ((b 7), .inl (kk 0, 6, .inl jb))]) := hD
        refine lv_aload_n hx hb dX8_remember_49 rfl (lv_at hl 0 rfl) ?_
        refine r_get (v := .ref (b 2)) hx hb hts hown hK hP fl_X8_13 0 rfl rfl dX8_remember_50 ?_
        refine lv_iconst (v := 0) hx hb dX8_remember_53 (by decide) ?_
        refine lv_aload_n hx hb dX8_remember_54 rfl (lv_at hl 0 rfl) ?_
        refine r_get (v := .ref (b 4)) hx hb hts hown hK hP fl_X8_19 0 rfl rfl dX8_remember_55 ?_
        refine lv_bipush (v := 64) hx hb dX8_remember_58 (by decide) ?_
        refine lv_aload_n hx hb dX8_remember_60 rfl (lv_at hl 0 rfl) ?_
        refine r_get (v := .int 13) hx hb hts hown hK hP fl_X8_179 0 rfl rfl dX8_remember_61 ?_
        refine lv_imul hx hb dX8_remember_64 ?_
        refine top_eq (show _ = (832 : Int32) by decide) ?_
        refine k_goV (k_runS (rest := []) (As := [.ref (b 2), .int 0, .ref (b 4), .int 832]) hx hb hml hown hts hK hP hD hS hA hE hl.1 (c_X8_copyState l G kk (b 2) 0 (b 4) 832 64 896 f dy1 (by omega) (by first | omega | (have := c14 hc c_6; omega)) (by decide) (by decide)) sl_X8_175 ⟨Nat.le_of_ble_eq_true rfl, Nat.le_of_ble_eq_true rfl, rfl, rfl⟩ [2, 4] rfl rfl ⟨Nat.zero_le _, Nat.zero_le _⟩ rfl (Nat.le_of_ble_eq_true rfl) dX8_remember_65) hP hD hS hA [2, 4] rfl ads2 (fun H locs hP hD hS => ?_)
        replace hP : va_P G vwCl ([(h, .inr (8, moF b (upd q 6 13))), ((b 1), .inl (kk 0, 120, .inl tx)), ((b 2), .inl (kk 0, 64, .inl f)), ((b 3), .inl (kk 0, 64, .inl ft)), ((b 4), .inl (kk 0, 896, .inl (sX8_copyState 0 832 f dy1))), ((b 5), .inl (kk 0, 128, .inl kp)), ((b 6), .inl (kk 2, 2, .inl ik)), ((b 7), .inl (kk 0, 6, .inl jb))]) H := hP
        replace hD : va_D A ([(h, .inr (8, moF b (upd q 6 13))), ((b 1), .inl (kk 0, 120, .inl tx)), ((b 2), .inl (kk 0, 64, .inl f)), ((b 3), .inl (kk 0, 64, .inl ft)), ((b 4), .inl (kk 0, 896, .inl (sX8_copyState 0 832 f dy1))), ((b 5), .inl (kk 0, 128, .inl kp)), ((b 6), .inl (kk 2, 2, .inl ik)), ((b 7), .inl (kk 0, 6, .inl jb))]) := hD
        have eS : sX8_remember q tx f ft dy kp ik jb cc = sX8_remember_z_2 q tx f ft dy kp ik jb cc i dy1 (sX8_copyState 0 832 f dy1) := eS
        generalize sX8_copyState 0 832 f dy1 = z_2 at hP hD eS ⊢
        refine lv_aload_n hx hb dX8_remember_68 rfl (lv_at hl 0 rfl) ?_
        refine lv_dup hx hb dX8_remember_69 rfl ?_
        refine r_get (v := .int 13) hx hb hts hown hK hP fl_X8_179 0 rfl rfl dX8_remember_70 ?_
        refine lv_iconst (v := 1) hx hb dX8_remember_73 (by decide) ?_
        refine lv_iadd hx hb dX8_remember_74 ?_
        refine top_eq (show _ = (14 : Int32) by decide) ?_
        refine r_put hx hb hts hown hK hP hD hS fl_X8_179 fw_8_6 0 rfl rfl rfl (Nat.le_of_ble_eq_true rfl) dX8_remember_75 (fun H locs hP hD hS => ?_)
        replace hP : va_P G vwCl ([(h, .inr (8, moF b (upd q 6 14))), ((b 1), .inl (kk 0, 120, .inl tx)), ((b 2), .inl (kk 0, 64, .inl f)), ((b 3), .inl (kk 0, 64, .inl ft)), ((b 4), .inl (kk 0, 896, .inl z_2)), ((b 5), .inl (kk 0, 128, .inl kp)), ((b 6), .inl (kk 2, 2, .inl ik)), ((b 7), .inl (kk 0, 6, .inl jb))]) H := hP
        replace hD : va_D A ([(h, .inr (8, moF b (upd q 6 14))), ((b 1), .inl (kk 0, 120, .inl tx)), ((b 2), .inl (kk 0, 64, .inl f)), ((b 3), .inl (kk 0, 64, .inl ft)), ((b 4), .inl (kk 0, 896, .inl z_2)), ((b 5), .inl (kk 0, 128, .inl kp)), ((b 6), .inl (kk 2, 2, .inl ik)), ((b 7), .inl (kk 0, 6, .inl jb))]) := hD
        exact fin_v hx hb hr hlocks hK (vP_eq (congrArg (fun z : (Nat → Int32) × (Nat → Int32) => ([(h, .inr (8, moF b z.1)), ((b 1), .inl (kk 0, 120, .inl tx)), ((b 2), .inl (kk 0, 64, .inl f)), ((b 3), .inl (kk 0, 64, .inl ft)), ((b 4), .inl (kk 0, 896, .inl z.2)), ((b 5), .inl (kk 0, 128, .inl kp)), ((b 6), .inl (kk 2, 2, .inl ik)), ((b 7), .inl (kk 0, 6, .inl jb))] : va_W)) eS.symm) hP) (vD_eq (congrArg (fun z : (Nat → Int32) × (Nat → Int32) => ([(h, .inr (8, moF b z.1)), ((b 1), .inl (kk 0, 120, .inl tx)), ((b 2), .inl (kk 0, 64, .inl f)), ((b 3), .inl (kk 0, 64, .inl ft)), ((b 4), .inl (kk 0, 896, .inl z.2)), ((b 5), .inl (kk 0, 128, .inl kp)), ((b 6), .inl (kk 2, 2, .inl ik)), ((b 7), .inl (kk 0, 6, .inl jb))] : va_W)) eS.symm) hD) hS dX8_remember_78
      | succ d ih =>
        intro i dy1 hd eS H locs ls hP hD hS hl
        refine lv_iload_n hx hb dX8_remember_11 rfl (lv_at hl 1 rfl) ?_
        refine lv_sipush (v := 832) hx hb dX8_remember_12 (by decide) ?_
        refine lv_icmp_ge (tgt := 39) hx hb dX8_remember_15 (by decide) (fun c_15 => absurd c_15 (nI_ge (a := i) (b := 832) (by omega) (by omega))) (fun c_15 => ?_)
        refine lv_aload_n hx hb dX8_remember_18 rfl (lv_at hl 0 rfl) ?_
        refine r_get (v := .ref (b 4)) hx hb hts hown hK hP fl_X8_19 0 rfl rfl dX8_remember_19 ?_
        refine lv_iload_n hx hb dX8_remember_22 rfl (lv_at hl 1 rfl) ?_
        refine lv_aload_n hx hb dX8_remember_23 rfl (lv_at hl 0 rfl) ?_
        refine r_get (v := .ref (b 4)) hx hb hts hown hK hP fl_X8_19 0 rfl rfl dX8_remember_24 ?_
        refine lv_iload_n hx hb dX8_remember_27 rfl (lv_at hl 1 rfl) ?_
        refine lv_bipush (v := 64) hx hb dX8_remember_28 (by decide) ?_
        refine lv_iadd hx hb dX8_remember_30 ?_
        refine top_eq (nI_add i 64) ?_
        refine r_iald hx hb hK hP 4 rfl (i + 64) rfl (by omega) (by decide) dX8_remember_31 ?_
        refine r_iast hx hb hK hP hD hS 4 rfl i rfl (by omega) (by decide) dX8_remember_32 (fun H locs hP hD hS => ?_)
        replace hP : va_P G vwCl ([(h, .inr (8, moF b q)), ((b 1), .inl (kk 0, 120, .inl tx)), ((b 2), .inl (kk 0, 64, .inl f)), ((b 3), .inl (kk 0, 64, .inl ft)), ((b 4), .inl (kk 0, 896, .inl (upd dy1 i (dy1 (i + 64))))), ((b 5), .inl (kk 0, 128, .inl kp)), ((b 6), .inl (kk 2, 2, .inl ik)), ((b 7), .inl (kk 0, 6, .inl jb))]) H := hP
        replace hD : va_D A ([(h, .inr (8, moF b q)), ((b 1), .inl (kk 0, 120, .inl tx)), ((b 2), .inl (kk 0, 64, .inl f)), ((b 3), .inl (kk 0, 64, .inl ft)), ((b 4), .inl (kk 0, 896, .inl (upd dy1 i (dy1 (i + 64))))), ((b 5), .inl (kk 0, 128, .inl kp)), ((b 6), .inl (kk 2, 2, .inl ik)), ((b 7), .inl (kk 0, 6, .inl jb))]) := hD
        refine lv_iinc (v := (nI (i + 1))) (lv' := [(1, .int (nI (i + 1))), (0, .ref h)]) hx hb dX8_remember_33 hl (k := 1) rfl (nI_add i 1) (by decide) rfl (fun ls hl => ?_)
        refine lv_goto (tgt := 11) hx hb dX8_remember_36 (by decide) ?_
        exact ih (i + 1) (upd dy1 i (dy1 (i + 64))) (by omega) eS _ _ ls hP hD hS (lv_sub hl [1, 0] rfl)
    exact L_3 832 0 dy (Nat.zero_add _) eS _ _ ls hP hD hS (lv_sub hl [1, 0] rfl)
