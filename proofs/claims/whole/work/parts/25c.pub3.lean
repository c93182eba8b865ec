def lp_X8_simulate_45 (q : Nat → Int32) (tx : Nat → Int32) (f : Nat → Int32) (ft : Nat → Int32) (dy : Nat → Int32) (kp : Nat → Int32) (ik : Nat → Int32) (jb : Nat → Int32) (n : Nat) (sd : Int64) (y : Int32) (lc : Int64 → Int64) (hi : Int64 → Int32) (z_1 : (Nat → Int32)) : Nat → Nat → Int64 → (Nat → Int32) → (Nat → Int32) → (Nat → Int32) → Int32 × (Nat → Int32) × (Nat → Int32) × (Nat → Int32)
  | 0, i, sd1, q1, jb1, ft1 => ((((1000 * ((ft1 3) - (f 3))) + (ft1 6)) - (f 6)), q1, ft1, jb1)
  | d + 1, i, sd1, q1, jb1, ft1 => ((fun (z_2 : (Nat → Int32) × (Nat → Int32) × (Nat → Int32)) => (lp_X8_simulate_45 q tx f ft dy kp ik jb n sd y lc hi z_1 d (i + 1) (lc sd1) z_2.1 z_2.2.2 z_2.2.1)) (sX8_turn q1 tx f ft1 dy kp ik jb1 (hi (lc sd1)) n))
def sX8_simulate_z_1 (q : Nat → Int32) (tx : Nat → Int32) (f : Nat → Int32) (ft : Nat → Int32) (dy : Nat → Int32) (kp : Nat → Int32) (ik : Nat → Int32) (jb : Nat → Int32) (n : Nat) (sd : Int64) (y : Int32) (lc : Int64 → Int64) (hi : Int64 → Int32) (z_1 : (Nat → Int32)) : Int32 × (Nat → Int32) × (Nat → Int32) × (Nat → Int32) :=
  (lp_X8_simulate_45 q tx f ft dy kp ik jb n sd y lc hi z_1 y.toNatClampNeg 0 sd (upd q 0 0) jb z_1)
def sX8_simulate (q : Nat → Int32) (tx : Nat → Int32) (f : Nat → Int32) (ft : Nat → Int32) (dy : Nat → Int32) (kp : Nat → Int32) (ik : Nat → Int32) (jb : Nat → Int32) (n : Nat) (sd : Int64) (y : Int32) (lc : Int64 → Int64) (hi : Int64 → Int32) : Int32 × (Nat → Int32) × (Nat → Int32) × (Nat → Int32) :=
  (if (sX8_in (y.toInt64) 1 60) = 0 then (0, (upd q 0 1), ft, jb) else (sX8_simulate_z_1 q tx f ft dy kp ik jb n sd y lc hi (sX8_copyState 0 0 f ft)))
set_option maxRecDepth 100000 in
set_option maxHeartbeats 4000000 in
theorem c_X8_simulate (l : Launch) (G : va_G) (kk : Nat → ClassId) (h : Nat) (b : Nat → Nat) (q : Nat → Int32) (tx : Nat → Int32) (f : Nat → Int32) (ft : Nat → Int32) (dy : Nat → Int32) (kp : Nat → Int32) (ik : Nat → Int32) (jb : Nat → Int32) (n : Nat) (sd : Int64) (y : Int32) (lc : Int64 → Int64) (hi : Int64 → Int32) (hn : f 0 = nI n) (h6 : n ≤ 6) (hlc : ∀ x : Int64, x * 6364136223846793005 + 1442695040888963407 = lc x) (hhi : ∀ x : Int64, ((x.toUInt64 >>> ((33 : Int32).toInt64.toUInt64 &&& Int64.toUInt64 63)).toInt64).toInt32 = hi x) (hh0 : ∀ x : Int64, 0 ≤ (hi x).toInt) : CC l yX8_simulate cX8_simulate 7 (some .int) (rmO 7 160) [.ref h, .long sd, .int y] G kk ([(h, .inr (8, moF b q)), ((b 1), .inl (kk 0, 120, .inl tx)), ((b 2), .inl (kk 0, 64, .inl f)), ((b 3), .inl (kk 0, 64, .inl ft)), ((b 4), .inl (kk 0, 896, .inl dy)), ((b 5), .inl (kk 0, 128, .inl kp)), ((b 6), .inl (kk 2, 2, .inl ik)), ((b 7), .inl (kk 0, 6, .inl jb))]) (QI G kk ([(h, .inr (8, moF b ((sX8_simulate q tx f ft dy kp ik jb n sd y lc hi).2.1))), ((b 1), .inl (kk 0, 120, .inl tx)), ((b 2), .inl (kk 0, 64, .inl f)), ((b 3), .inl (kk 0, 64, .inl ((sX8_simulate q tx f ft dy kp ik jb n sd y lc hi).2.2.1))), ((b 4), .inl (kk 0, 896, .inl dy)), ((b 5), .inl (kk 0, 128, .inl kp)), ((b 6), .inl (kk 2, 2, .inl ik)), ((b 7), .inl (kk 0, 6, .inl ((sX8_simulate q tx f ft dy kp ik jb n sd y lc hi).2.2.2)))]) ((sX8_simulate q tx f ft dy kp ik jb n sd y lc hi).1)) := by
  refine cc_start (by decide +kernel) (Nat.le_of_ble_eq_true rfl) ?_
  intro p e s m below meth c A ls hx hb hr hml hown hts hlocks hA hE hK hP hD hS hl
  have hown : s.vm.findClass RX8 = some m.cls := hown
  have hl : lv_has ls 7 [(0, .ref h), (1, .long sd), (3, .int y)] := hl
  have eS : sX8_simulate q tx f ft dy kp ik jb n sd y lc hi = sX8_simulate q tx f ft dy kp ik jb n sd y lc hi := rfl
  refine lv_aload_n hx hb dX8_simulate_0 rfl (lv_at hl 0 rfl) ?_
  refine lv_iload_n hx hb dX8_simulate_1 rfl (lv_at hl 2 rfl) ?_
  refine lv_i2l (v := (y.toInt64)) hx hb dX8_simulate_2 (by first | rfl | decide) ?_
  refine lv_lconst (v := 1) hx hb dX8_simulate_3 rfl ?_
  refine lv_ldc2 (v := 60) hx hb hown (hts _ kl_X8_196) dX8_simulate_4 ?_
  refine k_goI (k_runS (rest := [.ref h]) (As := [.long (y.toInt64), .long 1, .long 60]) hx hb hml hown hts hK hP hD hS hA hE hl.1 (c_X8_in l G kk (y.toInt64) 1 60 ) sl_X8_40 ⟨Nat.le_of_ble_eq_true rfl, Nat.le_of_ble_eq_true rfl, rfl, rfl⟩ [] rfl rfl ⟨Nat.zero_le _, Nat.zero_le _⟩ rfl (Nat.le_of_ble_eq_true rfl) dX8_simulate_7) hP hD hS hA [] rfl ads0 (fun H locs hP hD hS => ?_)
  replace hP : va_P G vwCl ([(h, .inr (8, moF b q)), ((b 1), .inl (kk 0, 120, .inl tx)), ((b 2), .inl (kk 0, 64, .inl f)), ((b 3), .inl (kk 0, 64, .inl ft)), ((b 4), .inl (kk 0, 896, .inl dy)), ((b 5), .inl (kk 0, 128, .inl kp)), ((b 6), .inl (kk 2, 2, .inl ik)), ((b 7), .inl (kk 0, 6, .inl jb))]) H := hP
  replace hD : va_D A ([(h, .inr (8, moF b q)), ((b 1), .inl (kk 0, 120, .inl tx)), ((b 2), .inl (kk 0, 64, .inl f)), ((b 3), .inl (kk 0, 64, .inl ft)), ((b 4), .inl (kk 0, 896, .inl dy)), ((b 5), .inl (kk 0, 128, .inl kp)), ((b 6), .inl (kk 2, 2, .inl ik)), ((b 7), .inl (kk 0, 6, .inl jb))]) := hD
  refine lv_if_eq (tgt := 17) hx hb dX8_simulate_10 (by decide) (fun c_10 => ?_) (fun c_10 => ?_)
  · have eS := eS.trans (if_pos c_10)
    refine lv_iconst (v := 1) hx hb dX8_simulate_17 (by decide) ?_
    refine k_goI (k_runV (rest := []) (As := [.int 1]) hx hb hml hown hts hK hP hD hS hA hE hl.1 (c_X8_refused9 l G kk h b q 1) vl_X8_119 rfl rfl rfl ⟨Nat.le_of_ble_eq_true rfl, Nat.le_of_ble_eq_true rfl, rfl, rfl⟩ [0] rfl rfl ⟨Nat.zero_le _, Nat.zero_le _⟩ rfl (Nat.le_of_ble_eq_true rfl) dX8_simulate_18) hP hD hS hA [0] rfl ads1 (fun H locs hP hD hS => ?_)
    replace hP : va_P G vwCl ([(h, .inr (8, moF b (upd q 0 1))), ((b 1), .inl (kk 0, 120, .inl tx)), ((b 2), .inl (kk 0, 64, .inl f)), ((b 3), .inl (kk 0, 64, .inl ft)), ((b 4), .inl (kk 0, 896, .inl dy)), ((b 5), .inl (kk 0, 128, .inl kp)), ((b 6), .inl (kk 2, 2, .inl ik)), ((b 7), .inl (kk 0, 6, .inl jb))]) H := hP
    replace hD : va_D A ([(h, .inr (8, moF b (upd q 0 1))), ((b 1), .inl (kk 0, 120, .inl tx)), ((b 2), .inl (kk 0, 64, .inl f)), ((b 3), .inl (kk 0, 64, .inl ft)), ((b 4), .inl (kk 0, 896, .inl dy)), ((b 5), .inl (kk 0, 128, .inl kp)), ((b 6), .inl (kk 2, 2, .inl ik)), ((b 7), .inl (kk 0, 6, .inl jb))]) := hD
    refine top_eq (y := 1) (by decide) ?_
    refine lv_if_eq (tgt := 26) hx hb dX8_simulate_21 (by decide) (fun c_21 => absurd c_21 (by decide)) (fun c_21 => ?_)
    refine lv_iconst (v := 0) hx hb dX8_simulate_24 (by decide) ?_
    exact fin_i hx hb hr hlocks hK (vP_eq (congrArg (fun z : Int32 × (Nat → Int32) × (Nat → Int32) × (Nat → Int32) => ([(h, .inr (8, moF b z.2.1)), ((b 1), .inl (kk 0, 120, .inl tx)), ((b 2), .inl (kk 0, 64, .inl f)), ((b 3), .inl (kk 0, 64, .inl z.2.2.1)), ((b 4), .inl (kk 0, 896, .inl dy)), ((b 5), .inl (kk 0, 128, .inl kp)), ((b 6), .inl (kk 2, 2, .inl ik)), ((b 7), .inl (kk 0, 6, .inl z.2.2.2))] : va_W)) eS.symm) hP) (vD_eq (congrArg (fun z : Int32 × (Nat → Int32) × (Nat → Int32) × (Nat → Int32) => ([(h, .inr (8, moF b z.2.1)), ((b 1), .inl (kk 0, 120, .inl tx)), ((b 2), .inl (kk 0, 64, .inl f)), ((b 3), .inl (kk 0, 64, .inl z.2.2.1)), ((b 4), .inl (kk 0, 896, .inl dy)), ((b 5), .inl (kk 0, 128, .inl kp)), ((b 6), .inl (kk 2, 2, .inl ik)), ((b 7), .inl (kk 0, 6, .inl z.2.2.2))] : va_W)) eS.symm) hD) hS (congrArg (fun z : Int32 × (Nat → Int32) × (Nat → Int32) × (Nat → Int32) => z.1) eS) dX8_simulate_25
  · have eS := eS.trans (if_neg c_10)
    refine lv_iconst (v := 0) hx hb dX8_simulate_13 (by decide) ?_
    refine lv_goto (tgt := 18) hx hb dX8_simulate_14 (by decide) ?_
    refine k_goI (k_runV (rest := []) (As := [.int 0]) hx hb hml hown hts hK hP hD hS hA hE hl.1 (c_X8_refused9 l G kk h b q 0) vl_X8_119 rfl rfl rfl ⟨Nat.le_of_ble_eq_true rfl, Nat.le_of_ble_eq_true rfl, rfl, rfl⟩ [0] rfl rfl ⟨Nat.zero_le _, Nat.zero_le _⟩ rfl (Nat.le_of_ble_eq_true rfl) dX8_simulate_18) hP hD hS hA [0] rfl ads1 (fun H locs hP hD hS => ?_)
    replace hP : va_P G vwCl ([(h, .inr (8, moF b (upd q 0 0))), ((b 1), .inl (kk 0, 120, .inl tx)), ((b 2), .inl (kk 0, 64, .inl f)), ((b 3), .inl (kk 0, 64, .inl ft)), ((b 4), .inl (kk 0, 896, .inl dy)), ((b 5), .inl (kk 0, 128, .inl kp)), ((b 6), .inl (kk 2, 2, .inl ik)), ((b 7), .inl (kk 0, 6, .inl jb))]) H := hP
    replace hD : va_D A ([(h, .inr (8, moF b (upd q 0 0))), ((b 1), .inl (kk 0, 120, .inl tx)), ((b 2), .inl (kk 0, 64, .inl f)), ((b 3), .inl (kk 0, 64, .inl ft)), ((b 4), .inl (kk 0, 896, .inl dy)), ((b 5), .inl (kk 0, 128, .inl kp)), ((b 6), .inl (kk 2, 2, .inl ik)), ((b 7), .inl (kk 0, 6, .inl jb))]) := hD
    refine top_eq (y := 0) (by decide) ?_
    refine lv_if_eq (tgt := 26) hx hb dX8_simulate_21 (by decide) (fun c_21 => ?_) (fun c_21 => absurd (by decide) c_21)
    obtain ⟨hx1, hx2⟩ := in_p (n := 60) c_10 rfl
    refine lv_aload_n hx hb dX8_simulate_26 rfl (lv_at hl 0 rfl) ?_
    refine r_get (v := .ref (b 2)) hx hb hts hown hK hP fl_X8_13 0 rfl rfl dX8_simulate_27 ?_
    refine lv_iconst (v := 0) hx hb dX8_simulate_30 (by decide) ?_
    refine lv_aload_n hx hb dX8_simulate_31 rfl (lv_at hl 0 rfl) ?_
    refine r_get (v := .ref (b 3)) hx hb hts hown hK hP fl_X8_16 0 rfl rfl dX8_simulate_32 ?_
    refine lv_iconst (v := 0) hx hb dX8_simulate_35 (by decide) ?_
    refine k_goV (k_runS (rest := []) (As := [.ref (b 2), .int 0, .ref (b 3), .int 0]) hx hb hml hown hts hK hP hD hS hA hE hl.1 (c_X8_copyState l G kk (b 2) 0 (b 3) 0 64 64 f ft (by omega) (by omega) (by omega) (by omega)) sl_X8_175 ⟨Nat.le_of_ble_eq_true rfl, Nat.le_of_ble_eq_true rfl, rfl, rfl⟩ [2, 3] rfl rfl ⟨Nat.zero_le _, Nat.zero_le _⟩ rfl (Nat.le_of_ble_eq_true rfl) dX8_simulate_36) hP hD hS hA [2, 3] rfl ads2 (fun H locs hP hD hS => ?_)
    replace hP : va_P G vwCl ([(h, .inr (8, moF b (upd q 0 0))), ((b 1), .inl (kk 0, 120, .inl tx)), ((b 2), .inl (kk 0, 64, .inl f)), ((b 3), .inl (kk 0, 64, .inl (sX8_copyState 0 0 f ft))), ((b 4), .inl (kk 0, 896, .inl dy)), ((b 5), .inl (kk 0, 128, .inl kp)), ((b 6), .inl (kk 2, 2, .inl ik)), ((b 7), .inl (kk 0, 6, .inl jb))]) H := hP
    replace hD : va_D A ([(h, .inr (8, moF b (upd q 0 0))), ((b 1), .inl (kk 0, 120, .inl tx)), ((b 2), .inl (kk 0, 64, .inl f)), ((b 3), .inl (kk 0, 64, .inl (sX8_copyState 0 0 f ft))), ((b 4), .inl (kk 0, 896, .inl dy)), ((b 5), .inl (kk 0, 128, .inl kp)), ((b 6), .inl (kk 2, 2, .inl ik)), ((b 7), .inl (kk 0, 6, .inl jb))]) := hD
    have eS : sX8_simulate q tx f ft dy kp ik jb n sd y lc hi = sX8_simulate_z_1 q tx f ft dy kp ik jb n sd y lc hi (sX8_copyState 0 0 f ft) := eS
    have hz_1 := (cs_0 f ft)
    generalize sX8_copyState 0 0 f ft = z_1 at hP hD eS hz_1 ⊢
    have hf0 : z_1 0 = nI n := hz_1.trans hn
    refine lv_lload_n hx hb dX8_simulate_39 rfl (lv_at hl 1 rfl) ?_
    refine lv_lstore (lv' := [(4, .long sd), (0, .ref h), (1, .long sd), (3, .int y)]) hx hb dX8_simulate_40 hl (by decide) rfl (fun ls hl => ?_)
    refine lv_iconst (v := 0) hx hb dX8_simulate_42 (by decide) ?_
    refine lv_istore (lv' := [(6, .int 0), (4, .long sd), (0, .ref h), (1, .long sd), (3, .int y)]) hx hb dX8_simulate_43 hl (by decide) rfl (fun ls hl => ?_)
    have L_3 : ∀ (d : Nat) (i : Nat) (sd1 : Int64) (q1 : Nat → Int32) (jb1 : Nat → Int32) (ft1 : Nat → Int32) (hd : i + d = y.toNatClampNeg) (hf : ft1 0 = nI n) (eS : sX8_simulate q tx f ft dy kp ik jb n sd y lc hi = lp_X8_simulate_45 q tx f ft dy kp ik jb n sd y lc hi z_1 d i sd1 q1 jb1 ft1) (H : Heap) (locs : List Loc) (ls : Array Slot) (hP : va_P G vwCl ([(h, .inr (8, moF b q1)), ((b 1), .inl (kk 0, 120, .inl tx)), ((b 2), .inl (kk 0, 64, .inl f)), ((b 3), .inl (kk 0, 64, .inl ft1)), ((b 4), .inl (kk 0, 896, .inl dy)), ((b 5), .inl (kk 0, 128, .inl kp)), ((b 6), .inl (kk 2, 2, .inl ik)), ((b 7), .inl (kk 0, 6, .inl jb1))]) H) (hD : va_D A ([(h, .inr (8, moF b q1)), ((b 1), .inl (kk 0, 120, .inl tx)), ((b 2), .inl (kk 0, 64, .inl f)), ((b 3), .inl (kk 0, 64, .inl ft1)), ((b 4), .inl (kk 0, 896, .inl dy)), ((b 5), .inl (kk 0, 128, .inl kp)), ((b 6), .inl (kk 2, 2, .inl ik)), ((b 7), .inl (kk 0, 6, .inl jb1))])) (hS : va_S A s.heap H locs) (hl : lv_has ls 7 [(0, .ref h), (1, .long sd), (3, .int y), (6, .int (nI i)), (4, .long sd1)]), GO p l e (rmO 7 160) s m ([.ref h, .long sd, .int y] : List Value).toArray below meth c A (QI G kk ([(h, .inr (8, moF b ((sX8_simulate q tx f ft dy kp ik jb n sd y lc hi).2.1))), ((b 1), .inl (kk 0, 120, .inl tx)), ((b 2), .inl (kk 0, 64, .inl f)), ((b 3), .inl (kk 0, 64, .inl ((sX8_simulate q tx f ft dy kp ik jb n sd y lc hi).2.2.1))), ((b 4), .inl (kk 0, 896, .inl dy)), ((b 5), .inl (kk 0, 128, .inl kp)), ((b 6), .inl (kk 2, 2, .inl ik)), ((b 7), .inl (kk 0, 6, .inl ((sX8_simulate q tx f ft dy kp ik jb n sd y lc hi).2.2.2)))]) ((sX8_simulate q tx f ft dy kp ik jb n sd y lc hi).1)) H locs (F0 m 45 ls []) := by
      intro d
      induction d with
      | zero =>
        intro i sd1 q1 jb1 ft1 hd hf eS H locs ls hP hD hS hl
        refine lv_iload hx hb dX8_simulate_45 (lv_at hl 3 rfl) ?_
        refine lv_iload_n hx hb dX8_simulate_47 rfl (lv_at hl 2 rfl) ?_
        refine lv_icmp_ge (tgt := 79) hx hb dX8_simulate_48 (by decide) (fun c_48 => ?_) (fun c_48 => absurd (cl_le hx1 (by omega) (by have := @cl_b y; omega)) c_48)
        refine lv_sipush (v := 1000) hx hb dX8_simulate_79 (by decide) ?_
        refine lv_aload_n hx hb dX8_simulate_82 rfl (lv_at hl 0 rfl) ?_
        refine r_get (v := .ref (b 3)) hx hb hts hown hK hP fl_X8_16 0 rfl rfl dX8_simulate_83 ?_
        refine lv_iconst (v := 3) hx hb dX8_simulate_86 (by decide) ?_
        refine r_iald hx hb hK hP 3 rfl 3 rfl (by decide) (by decide) dX8_simulate_87 ?_
        refine lv_aload_n hx hb dX8_simulate_88 rfl (lv_at hl 0 rfl) ?_
        refine r_get (v := .ref (b 2)) hx hb hts hown hK hP fl_X8_13 0 rfl rfl dX8_simulate_89 ?_
        refine lv_iconst (v := 3) hx hb dX8_simulate_92 (by decide) ?_
        refine r_iald hx hb hK hP 2 rfl 3 rfl (by decide) (by decide) dX8_simulate_93 ?_
        refine lv_isub hx hb dX8_simulate_94 ?_
        refine lv_imul hx hb dX8_simulate_95 ?_
        refine lv_aload_n hx hb dX8_simulate_96 rfl (lv_at hl 0 rfl) ?_
        refine r_get (v := .ref (b 3)) hx hb hts hown hK hP fl_X8_16 0 rfl rfl dX8_simulate_97 ?_
        refine lv_bipush (v := 6) hx hb dX8_simulate_100 (by decide) ?_
        refine r_iald hx hb hK hP 3 rfl 6 rfl (by decide) (by decide) dX8_simulate_102 ?_
        refine lv_iadd hx hb dX8_simulate_103 ?_
        refine lv_aload_n hx hb dX8_simulate_104 rfl (lv_at hl 0 rfl) ?_
        refine r_get (v := .ref (b 2)) hx hb hts hown hK hP fl_X8_13 0 rfl rfl dX8_simulate_105 ?_
        refine lv_bipush (v := 6) hx hb dX8_simulate_108 (by decide) ?_
        refine r_iald hx hb hK hP 2 rfl 6 rfl (by decide) (by decide) dX8_simulate_110 ?_
        refine lv_isub hx hb dX8_simulate_111 ?_
        exact fin_i hx hb hr hlocks hK (vP_eq (congrArg (fun z : Int32 × (Nat → Int32) × (Nat → Int32) × (Nat → Int32) => ([(h, .inr (8, moF b z.2.1)), ((b 1), .inl (kk 0, 120, .inl tx)), ((b 2), .inl (kk 0, 64, .inl f)), ((b 3), .inl (kk 0, 64, .inl z.2.2.1)), ((b 4), .inl (kk 0, 896, .inl dy)), ((b 5), .inl (kk 0, 128, .inl kp)), ((b 6), .inl (kk 2, 2, .inl ik)), ((b 7), .inl (kk 0, 6, .inl z.2.2.2))] : va_W)) eS.symm) hP) (vD_eq (congrArg (fun z : Int32 × (Nat → Int32) × (Nat → Int32) × (Nat → Int32) => ([(h, .inr (8, moF b z.2.1)), ((b 1), .inl (kk 0, 120, .inl tx)), ((b 2), .inl (kk 0, 64, .inl f)), ((b 3), .inl (kk 0, 64, .inl z.2.2.1)), ((b 4), .inl (kk 0, 896, .inl dy)), ((b 5), .inl (kk 0, 128, .inl kp)), ((b 6), .inl (kk 2, 2, .inl ik)), ((b 7), .inl (kk 0, 6, .inl z.2.2.2))] : va_W)) eS.symm) hD) hS (congrArg (fun z : Int32 × (Nat → Int32) × (Nat → Int32) × (Nat → Int32) => z.1) eS) dX8_simulate_112
      | succ d ih =>
        intro i sd1 q1 jb1 ft1 hd hf eS H locs ls hP hD hS hl
        refine lv_iload hx hb dX8_simulate_45 (lv_at hl 3 rfl) ?_
        refine lv_iload_n hx hb dX8_simulate_47 rfl (lv_at hl 2 rfl) ?_
        refine lv_icmp_ge (tgt := 79) hx hb dX8_simulate_48 (by decide) (fun c_48 => absurd c_48 (cl_gt hx1 (by omega) cl_b)) (fun c_48 => ?_)
        refine lv_lload hx hb dX8_simulate_51 (lv_at hl 4 rfl) ?_
        refine lv_ldc2 (v := 6364136223846793005) hx hb hown (hts _ kl_X8_219) dX8_simulate_53 ?_
        refine lv_lmul hx hb dX8_simulate_56 ?_
        refine lv_ldc2 (v := 1442695040888963407) hx hb hown (hts _ kl_X8_221) dX8_simulate_57 ?_
        refine lv_ladd hx hb dX8_simulate_60 ?_
        refine top_eqV (y := .long (lc sd1)) (congrArg Value.long (hlc sd1)) ?_
        refine lv_lstore (lv' := [(4, .long (lc sd1)), (0, .ref h), (1, .long sd), (3, .int y), (6, .int (nI i))]) hx hb dX8_simulate_61 hl (by decide) rfl (fun ls hl => ?_)
        refine lv_aload_n hx hb dX8_simulate_63 rfl (lv_at hl 1 rfl) ?_
        refine lv_lload hx hb dX8_simulate_64 (lv_at hl 0 rfl) ?_
        refine lv_bipush (v := 33) hx hb dX8_simulate_66 (by decide) ?_
        refine lv_lushr (v := (((lc sd1).toUInt64 >>> ((33 : Int32).toInt64.toUInt64 &&& Int64.toUInt64 63)).toInt64)) hx hb dX8_simulate_68 rfl ?_
        refine lv_l2i (v := ((((lc sd1).toUInt64 >>> ((33 : Int32).toInt64.toUInt64 &&& Int64.toUInt64 63)).toInt64).toInt32)) hx hb dX8_simulate_69 rfl ?_
        refine top_eq (y := (hi (lc sd1))) (hhi _) ?_
        refine k_goV (k_runV (rest := []) (As := [.int (hi (lc sd1))]) hx hb hml hown hts hK hP hD hS hA hE hl.1 (c_X8_turn l G kk h b q1 tx f ft1 dy kp ik jb1 (hi (lc sd1)) n hf h6 (hh0 _)) vl_X8_223 rfl rfl rfl ⟨Nat.le_of_ble_eq_true rfl, Nat.le_of_ble_eq_true rfl, rfl, rfl⟩ [0, 1, 2, 3, 4, 5, 6, 7] rfl rfl ⟨Nat.zero_le _, Nat.zero_le _⟩ rfl (Nat.le_of_ble_eq_true rfl) dX8_simulate_70) hP hD hS hA [0, 1, 2, 3, 4, 5, 6, 7] rfl ads8 (fun H locs hP hD hS => ?_)
        replace hP : va_P G vwCl ([(h, .inr (8, moF b ((sX8_turn q1 tx f ft1 dy kp ik jb1 (hi (lc sd1)) n).1))), ((b 1), .inl (kk 0, 120, .inl tx)), ((b 2), .inl (kk 0, 64, .inl f)), ((b 3), .inl (kk 0, 64, .inl ((sX8_turn q1 tx f ft1 dy kp ik jb1 (hi (lc sd1)) n).2.1))), ((b 4), .inl (kk 0, 896, .inl dy)), ((b 5), .inl (kk 0, 128, .inl kp)), ((b 6), .inl (kk 2, 2, .inl ik)), ((b 7), .inl (kk 0, 6, .inl ((sX8_turn q1 tx f ft1 dy kp ik jb1 (hi (lc sd1)) n).2.2)))]) H := hP
        replace hD : va_D A ([(h, .inr (8, moF b ((sX8_turn q1 tx f ft1 dy kp ik jb1 (hi (lc sd1)) n).1))), ((b 1), .inl (kk 0, 120, .inl tx)), ((b 2), .inl (kk 0, 64, .inl f)), ((b 3), .inl (kk 0, 64, .inl ((sX8_turn q1 tx f ft1 dy kp ik jb1 (hi (lc sd1)) n).2.1))), ((b 4), .inl (kk 0, 896, .inl dy)), ((b 5), .inl (kk 0, 128, .inl kp)), ((b 6), .inl (kk 2, 2, .inl ik)), ((b 7), .inl (kk 0, 6, .inl ((sX8_turn q1 tx f ft1 dy kp ik jb1 (hi (lc sd1)) n).2.2)))]) := hD
        have eS : sX8_simulate q tx f ft dy kp ik jb n sd y lc hi = (fun (z_2 : (Nat → Int32) × (Nat → Int32) × (Nat → Int32)) => (lp_X8_simulate_45 q tx f ft dy kp ik jb n sd y lc hi z_1 d (i + 1) (lc sd1) z_2.1 z_2.2.2 z_2.2.1)) (sX8_turn q1 tx f ft1 dy kp ik jb1 (hi (lc sd1)) n) := eS
        have hz_2 := tu_0 h6 q1 tx f ft1 dy kp ik jb1 (hi (lc sd1))
        generalize sX8_turn q1 tx f ft1 dy kp ik jb1 (hi (lc sd1)) n = z_2 at hP hD eS hz_2 ⊢
        refine lv_iinc (v := (nI (i + 1))) (lv' := [(6, .int (nI (i + 1))), (4, .long (lc sd1)), (0, .ref h), (1, .long sd), (3, .int y)]) hx hb dX8_simulate_73 hl (k := 4) rfl (nI_add i 1) (by decide) rfl (fun ls hl => ?_)
        refine lv_goto (tgt := 45) hx hb dX8_simulate_76 (by decide) ?_
        exact ih (i + 1) (lc sd1) z_2.1 z_2.2.2 z_2.2.1 (by omega) (hz_2.trans hf) eS _ _ ls hP hD hS (lv_sub hl [2, 3, 4, 0, 1] rfl)
    exact L_3 y.toNatClampNeg 0 sd (upd q 0 0) jb z_1 (Nat.zero_add _) hf0 eS _ _ ls hP hD hS (lv_sub hl [2, 3, 4, 0, 1] rfl)
