def sX8_load_z_2 (q : Nat → Int32) (tx : Nat → Int32) (f : Nat → Int32) (ft : Nat → Int32) (dy : Nat → Int32) (kp : Nat → Int32) (ik : Nat → Int32) (jb : Nat → Int32) (z_1 : Int32 × (Nat → Int32) × (Nat → Int32) × (Nat → Int32)) (z_2 : (Nat → Int32)) : Int32 × (Nat → Int32) × (Nat → Int32) × (Nat → Int32) × (Nat → Int32) × (Nat → Int32) :=
  ((z_1.2.1 12), (upd (upd z_1.2.1 0 0) 6 0), z_2, z_1.2.2.1, (upd (upd ik 0 0) 1 0), z_1.2.2.2)
def sX8_load_z_1 (q : Nat → Int32) (tx : Nat → Int32) (f : Nat → Int32) (ft : Nat → Int32) (dy : Nat → Int32) (kp : Nat → Int32) (ik : Nat → Int32) (jb : Nat → Int32) (z_1 : Int32 × (Nat → Int32) × (Nat → Int32) × (Nat → Int32)) : Int32 × (Nat → Int32) × (Nat → Int32) × (Nat → Int32) × (Nat → Int32) × (Nat → Int32) :=
  (if z_1.1 = (-1) then (sX8_load_z_2 q tx f ft dy kp ik jb z_1 (sX8_copyState 0 0 z_1.2.2.1 f)) else (0, (upd z_1.2.1 0 1), f, z_1.2.2.1, ik, z_1.2.2.2))
def sX8_load (q : Nat → Int32) (tx : Nat → Int32) (f : Nat → Int32) (ft : Nat → Int32) (dy : Nat → Int32) (kp : Nat → Int32) (ik : Nat → Int32) (jb : Nat → Int32) : Int32 × (Nat → Int32) × (Nat → Int32) × (Nat → Int32) × (Nat → Int32) × (Nat → Int32) :=
  (sX8_load_z_1 q tx f ft dy kp ik jb (sX8_readText q tx ft jb))
set_option maxRecDepth 100000 in
set_option maxHeartbeats 4000000 in
theorem c_X8_load (l : Launch) (G : va_G) (kk : Nat → ClassId) (h : Nat) (b : Nat → Nat) (q : Nat → Int32) (tx : Nat → Int32) (f : Nat → Int32) (ft : Nat → Int32) (dy : Nat → Int32) (kp : Nat → Int32) (ik : Nat → Int32) (jb : Nat → Int32) (sz : Nat) (hs : q 2 = nI sz) (hz : sz ≤ 120) : CC l yX8_load cX8_load 1 (some .int) (rmO 8 182) [.ref h] G kk ([(h, .inr (8, moF b q)), ((b 1), .inl (kk 0, 120, .inl tx)), ((b 2), .inl (kk 0, 64, .inl f)), ((b 3), .inl (kk 0, 64, .inl ft)), ((b 4), .inl (kk 0, 896, .inl dy)), ((b 5), .inl (kk 0, 128, .inl kp)), ((b 6), .inl (kk 2, 2, .inl ik)), ((b 7), .inl (kk 0, 6, .inl jb))]) (QI G kk ([(h, .inr (8, moF b ((sX8_load q tx f ft dy kp ik jb).2.1))), ((b 1), .inl (kk 0, 120, .inl tx)), ((b 2), .inl (kk 0, 64, .inl ((sX8_load q tx f ft dy kp ik jb).2.2.1))), ((b 3), .inl (kk 0, 64, .inl ((sX8_load q tx f ft dy kp ik jb).2.2.2.1))), ((b 4), .inl (kk 0, 896, .inl dy)), ((b 5), .inl (kk 0, 128, .inl kp)), ((b 6), .inl (kk 2, 2, .inl ((sX8_load q tx f ft dy kp ik jb).2.2.2.2.1))), ((b 7), .inl (kk 0, 6, .inl ((sX8_load q tx f ft dy kp ik jb).2.2.2.2.2)))]) ((sX8_load q tx f ft dy kp ik jb).1)) := by
  refine cc_start (by decide +kernel) (Nat.le_of_ble_eq_true rfl) ?_
  intro p e s m below meth c A ls hx hb hr hml hown hts hlocks hA hE hK hP hD hS hl
  have hown : s.vm.findClass RX8 = some m.cls := hown
  have hl : lv_has ls 1 [(0, .ref h)] := hl
  have eS : sX8_load q tx f ft dy kp ik jb = sX8_load q tx f ft dy kp ik jb := rfl
  refine lv_aload_n hx hb dX8_load_0 rfl (lv_at hl 0 rfl) ?_
  refine lv_aload_n hx hb dX8_load_1 rfl (lv_at hl 0 rfl) ?_
  refine lv_aload_n hx hb dX8_load_2 rfl (lv_at hl 0 rfl) ?_
  refine r_get (v := .ref (b 3)) hx hb hts hown hK hP fl_X8_16 0 rfl rfl dX8_load_3 ?_
  refine k_goI (k_runV (rest := [.ref h]) (As := [.ref (b 3)]) hx hb hml hown hts hK hP hD hS hA hE hl.1 (c_X8_readText l G kk h b q tx ft jb sz hs hz) vl_X8_172 rfl rfl rfl ⟨Nat.le_of_ble_eq_true rfl, Nat.le_of_ble_eq_true rfl, rfl, rfl⟩ [0, 1, 3, 7] rfl rfl ⟨Nat.zero_le _, Nat.zero_le _⟩ rfl (Nat.le_of_ble_eq_true rfl) dX8_load_6) hP hD hS hA [0, 1, 3, 7] rfl ads4 (fun H locs hP hD hS => ?_)
  replace hP : va_P G vwCl ([(h, .inr (8, moF b ((sX8_readText q tx ft jb).2.1))), ((b 1), .inl (kk 0, 120, .inl tx)), ((b 2), .inl (kk 0, 64, .inl f)), ((b 3), .inl (kk 0, 64, .inl ((sX8_readText q tx ft jb).2.2.1))), ((b 4), .inl (kk 0, 896, .inl dy)), ((b 5), .inl (kk 0, 128, .inl kp)), ((b 6), .inl (kk 2, 2, .inl ik)), ((b 7), .inl (kk 0, 6, .inl ((sX8_readText q tx ft jb).2.2.2)))]) H := hP
  replace hD : va_D A ([(h, .inr (8, moF b ((sX8_readText q tx ft jb).2.1))), ((b 1), .inl (kk 0, 120, .inl tx)), ((b 2), .inl (kk 0, 64, .inl f)), ((b 3), .inl (kk 0, 64, .inl ((sX8_readText q tx ft jb).2.2.1))), ((b 4), .inl (kk 0, 896, .inl dy)), ((b 5), .inl (kk 0, 128, .inl kp)), ((b 6), .inl (kk 2, 2, .inl ik)), ((b 7), .inl (kk 0, 6, .inl ((sX8_readText q tx ft jb).2.2.2)))]) := hD
  have eS : sX8_load q tx f ft dy kp ik jb = sX8_load_z_1 q tx f ft dy kp ik jb (sX8_readText q tx ft jb) := eS
  generalize sX8_readText q tx ft jb = z_1 at hP hD eS ⊢
  refine lv_iconst (v := (-1)) hx hb dX8_load_9 (by decide) ?_
  refine lv_icmp_ne (tgt := 17) hx hb dX8_load_10 (by decide) (fun c_10 => ?_) (fun c_10 => ?_)
  · have eS := eS.trans (if_neg c_10)
    refine lv_iconst (v := 1) hx hb dX8_load_17 (by decide) ?_
    refine k_goI (k_runV (rest := []) (As := [.int 1]) hx hb hml hown hts hK hP hD hS hA hE hl.1 (c_X8_refused9 l G kk h b z_1.2.1 1) vl_X8_119 rfl rfl rfl ⟨Nat.le_of_ble_eq_true rfl, Nat.le_of_ble_eq_true rfl, rfl, rfl⟩ [0] rfl rfl ⟨Nat.zero_le _, Nat.zero_le _⟩ rfl (Nat.le_of_ble_eq_true rfl) dX8_load_18) hP hD hS hA [0] rfl ads1 (fun H locs hP hD hS => ?_)
    replace hP : va_P G vwCl ([(h, .inr (8, moF b (upd z_1.2.1 0 1))), ((b 1), .inl (kk 0, 120, .inl tx)), ((b 2), .inl (kk 0, 64, .inl f)), ((b 3), .inl (kk 0, 64, .inl z_1.2.2.1)), ((b 4), .inl (kk 0, 896, .inl dy)), ((b 5), .inl (kk 0, 128, .inl kp)), ((b 6), .inl (kk 2, 2, .inl ik)), ((b 7), .inl (kk 0, 6, .inl z_1.2.2.2))]) H := hP
    replace hD : va_D A ([(h, .inr (8, moF b (upd z_1.2.1 0 1))), ((b 1), .inl (kk 0, 120, .inl tx)), ((b 2), .inl (kk 0, 64, .inl f)), ((b 3), .inl (kk 0, 64, .inl z_1.2.2.1)), ((b 4), .inl (kk 0, 896, .inl dy)), ((b 5), .inl (kk 0, 128, .inl kp)), ((b 6), .inl (kk 2, 2, .inl ik)), ((b 7), .inl (kk 0, 6, .inl z_1.2.2.2))]) := hD
    refine top_eq (y := 1) (by decide) ?_
    refine lv_if_eq (tgt := 26) hx hb dX8_load_21 (by decide) (fun c_21 => absurd c_21 (by decide)) (fun c_21 => ?_)
    refine lv_iconst (v := 0) hx hb dX8_load_24 (by decide) ?_
    exact fin_i hx hb hr hlocks hK (vP_eq (congrArg (fun z : Int32 × (Nat → Int32) × (Nat → Int32) × (Nat → Int32) × (Nat → Int32) × (Nat → Int32) => ([(h, .inr (8, moF b z.2.1)), ((b 1), .inl (kk 0, 120, .inl tx)), ((b 2), .inl (kk 0, 64, .inl z.2.2.1)), ((b 3), .inl (kk 0, 64, .inl z.2.2.2.1)), ((b 4), .inl (kk 0, 896, .inl dy)), ((b 5), .inl (kk 0, 128, .inl kp)), ((b 6), .inl (kk 2, 2, .inl z.2.2.2.2.1)), ((b 7), .inl (kk 0, 6, .inl z.2.2.2.2.2))] : va_W)) eS.symm) hP) (vD_eq (congrArg (fun z : Int32 × (Nat → Int32) × (Nat → Int32) × (Nat → Int32) × (Nat → Int32) × (Nat → Int32) => ([(h, .inr (8, moF b z.2.1)), ((b 1), .inl (kk 0, 120, .inl tx)), ((b 2), .inl (kk 0, 64, .inl z.2.2.1)), ((b 3), .inl (kk 0, 64, .inl z.2.2.2.1)), ((b 4), .inl (kk 0, 896, .inl dy)), ((b 5), .inl (kk 0, 128, .inl kp)), ((b 6), .inl (kk 2, 2, .inl z.2.2.2.2.1)), ((b 7), .inl (kk 0, 6, .inl z.2.2.2.2.2))] : va_W)) eS.symm) hD) hS (congrArg (fun z : Int32 × (Nat → Int32) × (Nat → Int32) × (Nat → Int32) × (Nat → Int32) × (Nat → Int32) => z.1) eS) dX8_load_25
  · have eS := eS.trans (if_pos c_10)
    refine lv_iconst (v := 0) hx hb dX8_load_13 (by decide) ?_
    refine lv_goto (tgt := 18) hx hb dX8_load_14 (by decide) ?_
    refine k_goI (k_runV (rest := []) (As := [.int 0]) hx hb hml hown hts hK hP hD hS hA hE hl.1 (c_X8_refused9 l G kk h b z_1.2.1 0) vl_X8_119 rfl rfl rfl ⟨Nat.le_of_ble_eq_true rfl, Nat.le_of_ble_eq_true rfl, rfl, rfl⟩ [0] rfl rfl ⟨Nat.zero_le _, Nat.zero_le _⟩ rfl (Nat.le_of_ble_eq_true rfl) dX8_load_18) hP hD hS hA [0] rfl ads1 (fun H locs hP hD hS => ?_)
    replace hP : va_P G vwCl ([(h, .inr (8, moF b (upd z_1.2.1 0 0))), ((b 1), .inl (kk 0, 120, .inl tx)), ((b 2), .inl (kk 0, 64, .inl f)), ((b 3), .inl (kk 0, 64, .inl z_1.2.2.1)), ((b 4), .inl (kk 0, 896, .inl dy)), ((b 5), .inl (kk 0, 128, .inl kp)), ((b 6), .inl (kk 2, 2, .inl ik)), ((b 7), .inl (kk 0, 6, .inl z_1.2.2.2))]) H := hP
    replace hD : va_D A ([(h, .inr (8, moF b (upd z_1.2.1 0 0))), ((b 1), .inl (kk 0, 120, .inl tx)), ((b 2), .inl (kk 0, 64, .inl f)), ((b 3), .inl (kk 0, 64, .inl z_1.2.2.1)), ((b 4), .inl (kk 0, 896, .inl dy)), ((b 5), .inl (kk 0, 128, .inl kp)), ((b 6), .inl (kk 2, 2, .inl ik)), ((b 7), .inl (kk 0, 6, .inl z_1.2.2.2))]) := hD
    refine top_eq (y := 0) (by decide) ?_
    refine lv_if_eq (tgt := 26) hx hb dX8_load_21 (by decide) (fun c_21 => ?_) (fun c_21 => absurd (by decide) c_21)
    refine lv_aload_n hx hb dX8_load_26 rfl (lv_at hl 0 rfl) ?_
    refine r_get (v := .ref (b 3)) hx hb hts hown hK hP fl_X8_16 0 rfl rfl dX8_load_27 ?_
    refine lv_iconst (v := 0) hx hb dX8_load_30 (by decide) ?_
    refine lv_aload_n hx hb dX8_load_31 rfl (lv_at hl 0 rfl) ?_
    refine r_get (v := .ref (b 2)) hx hb hts hown hK hP fl_X8_13 0 rfl rfl dX8_load_32 ?_
    refine lv_iconst (v := 0) hx hb dX8_load_35 (by decide) ?_
    refine k_goV (k_runS (rest := []) (As := [.ref (b 3), .int 0, .ref (b 2), .int 0]) hx hb hml hown hts hK hP hD hS hA hE hl.1 (c_X8_copyState l G kk (b 3) 0 (b 2) 0 64 64 z_1.2.2.1 f (by omega) (by omega) (by omega) (by omega)) sl_X8_175 ⟨Nat.le_of_ble_eq_true rfl, Nat.le_of_ble_eq_true rfl, rfl, rfl⟩ [3, 2] rfl rfl ⟨Nat.zero_le _, Nat.zero_le _⟩ rfl (Nat.le_of_ble_eq_true rfl) dX8_load_36) hP hD hS hA [3, 2] rfl ads2 (fun H locs hP hD hS => ?_)
    replace hP : va_P G vwCl ([(h, .inr (8, moF b (upd z_1.2.1 0 0))), ((b 1), .inl (kk 0, 120, .inl tx)), ((b 2), .inl (kk 0, 64, .inl (sX8_copyState 0 0 z_1.2.2.1 f))), ((b 3), .inl (kk 0, 64, .inl z_1.2.2.1)), ((b 4), .inl (kk 0, 896, .inl dy)), ((b 5), .inl (kk 0, 128, .inl kp)), ((b 6), .inl (kk 2, 2, .inl ik)), ((b 7), .inl (kk 0, 6, .inl z_1.2.2.2))]) H := hP
    replace hD : va_D A ([(h, .inr (8, moF b (upd z_1.2.1 0 0))), ((b 1), .inl (kk 0, 120, .inl tx)), ((b 2), .inl (kk 0, 64, .inl (sX8_copyState 0 0 z_1.2.2.1 f))), ((b 3), .inl (kk 0, 64, .inl z_1.2.2.1)), ((b 4), .inl (kk 0, 896, .inl dy)), ((b 5), .inl (kk 0, 128, .inl kp)), ((b 6), .inl (kk 2, 2, .inl ik)), ((b 7), .inl (kk 0, 6, .inl z_1.2.2.2))]) := hD
    have eS : sX8_load q tx f ft dy kp ik jb = sX8_load_z_2 q tx f ft dy kp ik jb z_1 (sX8_copyState 0 0 z_1.2.2.1 f) := eS
    have hz_2 := (cs_0 z_1.2.2.1 f)
    generalize sX8_copyState 0 0 z_1.2.2.1 f = z_2 at hP hD eS hz_2 ⊢
    refine lv_aload_n hx hb dX8_load_39 rfl (lv_at hl 0 rfl) ?_
    refine lv_iconst (v := 0) hx hb dX8_load_40 (by decide) ?_
    refine r_put hx hb hts hown hK hP hD hS fl_X8_179 fw_8_6 0 rfl rfl rfl (Nat.le_of_ble_eq_true rfl) dX8_load_41 (fun H locs hP hD hS => ?_)
    replace hP : va_P G vwCl ([(h, .inr (8, moF b (upd (upd z_1.2.1 0 0) 6 0))), ((b 1), .inl (kk 0, 120, .inl tx)), ((b 2), .inl (kk 0, 64, .inl z_2)), ((b 3), .inl (kk 0, 64, .inl z_1.2.2.1)), ((b 4), .inl (kk 0, 896, .inl dy)), ((b 5), .inl (kk 0, 128, .inl kp)), ((b 6), .inl (kk 2, 2, .inl ik)), ((b 7), .inl (kk 0, 6, .inl z_1.2.2.2))]) H := hP
    replace hD : va_D A ([(h, .inr (8, moF b (upd (upd z_1.2.1 0 0) 6 0))), ((b 1), .inl (kk 0, 120, .inl tx)), ((b 2), .inl (kk 0, 64, .inl z_2)), ((b 3), .inl (kk 0, 64, .inl z_1.2.2.1)), ((b 4), .inl (kk 0, 896, .inl dy)), ((b 5), .inl (kk 0, 128, .inl kp)), ((b 6), .inl (kk 2, 2, .inl ik)), ((b 7), .inl (kk 0, 6, .inl z_1.2.2.2))]) := hD
    refine lv_aload_n hx hb dX8_load_44 rfl (lv_at hl 0 rfl) ?_
    refine r_get (v := .ref (b 6)) hx hb hts hown hK hP fl_X8_25 0 rfl rfl dX8_load_45 ?_
    refine lv_iconst (v := 0) hx hb dX8_load_48 (by decide) ?_
    refine lv_iconst (v := 0) hx hb dX8_load_49 (by decide) ?_
    refine r_zast hx hb hK hP hD hS 6 rfl 0 rfl (by decide) (by decide) (by decide) dX8_load_50 (fun H locs hP hD hS => ?_)
    replace hP : va_P G vwCl ([(h, .inr (8, moF b (upd (upd z_1.2.1 0 0) 6 0))), ((b 1), .inl (kk 0, 120, .inl tx)), ((b 2), .inl (kk 0, 64, .inl z_2)), ((b 3), .inl (kk 0, 64, .inl z_1.2.2.1)), ((b 4), .inl (kk 0, 896, .inl dy)), ((b 5), .inl (kk 0, 128, .inl kp)), ((b 6), .inl (kk 2, 2, .inl (upd ik 0 0))), ((b 7), .inl (kk 0, 6, .inl z_1.2.2.2))]) H := hP
    replace hD : va_D A ([(h, .inr (8, moF b (upd (upd z_1.2.1 0 0) 6 0))), ((b 1), .inl (kk 0, 120, .inl tx)), ((b 2), .inl (kk 0, 64, .inl z_2)), ((b 3), .inl (kk 0, 64, .inl z_1.2.2.1)), ((b 4), .inl (kk 0, 896, .inl dy)), ((b 5), .inl (kk 0, 128, .inl kp)), ((b 6), .inl (kk 2, 2, .inl (upd ik 0 0))), ((b 7), .inl (kk 0, 6, .inl z_1.2.2.2))]) := hD
    refine lv_aload_n hx hb dX8_load_51 rfl (lv_at hl 0 rfl) ?_
    refine r_get (v := .ref (b 6)) hx hb hts hown hK hP fl_X8_25 0 rfl rfl dX8_load_52 ?_
    refine lv_iconst (v := 1) hx hb dX8_load_55 (by decide) ?_
    refine lv_iconst (v := 0) hx hb dX8_load_56 (by decide) ?_
    refine r_zast hx hb hK hP hD hS 6 rfl 1 rfl (by decide) (by decide) (by decide) dX8_load_57 (fun H locs hP hD hS => ?_)
    replace hP : va_P G vwCl ([(h, .inr (8, moF b (upd (upd z_1.2.1 0 0) 6 0))), ((b 1), .inl (kk 0, 120, .inl tx)), ((b 2), .inl (kk 0, 64, .inl z_2)), ((b 3), .inl (kk 0, 64, .inl z_1.2.2.1)), ((b 4), .inl (kk 0, 896, .inl dy)), ((b 5), .inl (kk 0, 128, .inl kp)), ((b 6), .inl (kk 2, 2, .inl (upd (upd ik 0 0) 1 0))), ((b 7), .inl (kk 0, 6, .inl z_1.2.2.2))]) H := hP
    replace hD : va_D A ([(h, .inr (8, moF b (upd (upd z_1.2.1 0 0) 6 0))), ((b 1), .inl (kk 0, 120, .inl tx)), ((b 2), .inl (kk 0, 64, .inl z_2)), ((b 3), .inl (kk 0, 64, .inl z_1.2.2.1)), ((b 4), .inl (kk 0, 896, .inl dy)), ((b 5), .inl (kk 0, 128, .inl kp)), ((b 6), .inl (kk 2, 2, .inl (upd (upd ik 0 0) 1 0))), ((b 7), .inl (kk 0, 6, .inl z_1.2.2.2))]) := hD
    refine lv_aload_n hx hb dX8_load_58 rfl (lv_at hl 0 rfl) ?_
    refine r_get (v := .int (z_1.2.1 12)) hx hb hts hown hK hP fl_X8_139 0 rfl rfl dX8_load_59 ?_
    exact fin_i hx hb hr hlocks hK (vP_eq (congrArg (fun z : Int32 × (Nat → Int32) × (Nat → Int32) × (Nat → Int32) × (Nat → Int32) × (Nat → Int32) => ([(h, .inr (8, moF b z.2.1)), ((b 1), .inl (kk 0, 120, .inl tx)), ((b 2), .inl (kk 0, 64, .inl z.2.2.1)), ((b 3), .inl (kk 0, 64, .inl z.2.2.2.1)), ((b 4), .inl (kk 0, 896, .inl dy)), ((b 5), .inl (kk 0, 128, .inl kp)), ((b 6), .inl (kk 2, 2, .inl z.2.2.2.2.1)), ((b 7), .inl (kk 0, 6, .inl z.2.2.2.2.2))] : va_W)) eS.symm) hP) (vD_eq (congrArg (fun z : Int32 × (Nat → Int32) × (Nat → Int32) × (Nat → Int32) × (Nat → Int32) × (Nat → Int32) => ([(h, .inr (8, moF b z.2.1)), ((b 1), .inl (kk 0, 120, .inl tx)), ((b 2), .inl (kk 0, 64, .inl z.2.2.1)), ((b 3), .inl (kk 0, 64, .inl z.2.2.2.1)), ((b 4), .inl (kk 0, 896, .inl dy)), ((b 5), .inl (kk 0, 128, .inl kp)), ((b 6), .inl (kk 2, 2, .inl z.2.2.2.2.1)), ((b 7), .inl (kk 0, 6, .inl z.2.2.2.2.2))] : va_W)) eS.symm) hD) hS (congrArg (fun z : Int32 × (Nat → Int32) × (Nat → Int32) × (Nat → Int32) × (Nat → Int32) × (Nat → Int32) => z.1) eS) dX8_load_62
def sX8_errorPosition_z_1 (q : Nat → Int32) (tx : Nat → Int32) (f : Nat → Int32) (ft : Nat → Int32) (dy : Nat → Int32) (kp : Nat → Int32) (ik : Nat → Int32) (jb : Nat → Int32) (z_1 : Int32 × (Nat → Int32) × (Nat → Int32) × (Nat → Int32)) : Int32 × (Nat → Int32) × (Nat → Int32) × (Nat → Int32) :=
  (z_1.1, z_1.2.1, z_1.2.2.1, z_1.2.2.2)
def sX8_errorPosition (q : Nat → Int32) (tx : Nat → Int32) (f : Nat → Int32) (ft : Nat → Int32) (dy : Nat → Int32) (kp : Nat → Int32) (ik : Nat → Int32) (jb : Nat → Int32) : Int32 × (Nat → Int32) × (Nat → Int32) × (Nat → Int32) :=
  (sX8_errorPosition_z_1 q tx f ft dy kp ik jb (sX8_readText (upd q 0 0) tx ft jb))
set_option maxRecDepth 100000 in
set_option maxHeartbeats 4000000 in
theorem c_X8_errorPosition (l : Launch) (G : va_G) (kk : Nat → ClassId) (h : Nat) (b : Nat → Nat) (q : Nat → Int32) (tx : Nat → Int32) (f : Nat → Int32) (ft : Nat → Int32) (dy : Nat → Int32) (kp : Nat → Int32) (ik : Nat → Int32) (jb : Nat → Int32) (sz : Nat) (hs : q 2 = nI sz) (hz : sz ≤ 120) : CC l yX8_errorPosition cX8_errorPosition 1 (some .int) (rmO 8 182) [.ref h] G kk ([(h, .inr (8, moF b q)), ((b 1), .inl (kk 0, 120, .inl tx)), ((b 2), .inl (kk 0, 64, .inl f)), ((b 3), .inl (kk 0, 64, .inl ft)), ((b 4), .inl (kk 0, 896, .inl dy)), ((b 5), .inl (kk 0, 128, .inl kp)), ((b 6), .inl (kk 2, 2, .inl ik)), ((b 7), .inl (kk 0, 6, .inl jb))]) (QI G kk ([(h, .inr (8, moF b ((sX8_errorPosition q tx f ft dy kp ik jb).2.1))), ((b 1), .inl (kk 0, 120, .inl tx)), ((b 2), .inl (kk 0, 64, .inl f)), ((b 3), .inl (kk 0, 64, .inl ((sX8_errorPosition q tx f ft dy kp ik jb).2.2.1))), ((b 4), .inl (kk 0, 896, .inl dy)), ((b 5), .inl (kk 0, 128, .inl kp)), ((b 6), .inl (kk 2, 2, .inl ik)), ((b 7), .inl (kk 0, 6, .inl ((sX8_errorPosition q tx f ft dy kp ik jb).2.2.2)))]) ((sX8_errorPosition q tx f ft dy kp ik jb).1)) := by
  refine cc_start (by decide +kernel) (Nat.le_of_ble_eq_true rfl) ?_
  intro p e s m below meth c A ls hx hb hr hml hown hts hlocks hA hE hK hP hD hS hl
  have hown : s.vm.findClass RX8 = some m.cls := hown
  have hl : lv_has ls 1 [(0, .ref h)] := hl
  have eS : sX8_errorPosition q tx f ft dy kp ik jb = sX8_errorPosition q tx f ft dy kp ik jb := rfl
  refine lv_aload_n hx hb dX8_errorPosition_0 rfl (lv_at hl 0 rfl) ?_
  refine lv_iconst (v := 0) hx hb dX8_errorPosition_1 (by decide) ?_
  refine r_put hx hb hts hown hK hP hD hS fl_X8_36 fw_8_0 0 rfl rfl rfl (Nat.le_of_ble_eq_true rfl) dX8_errorPosition_2 (fun H locs hP hD hS => ?_)
  replace hP : va_P G vwCl ([(h, .inr (8, moF b (upd q 0 0))), ((b 1), .inl (kk 0, 120, .inl tx)), ((b 2), .inl (kk 0, 64, .inl f)), ((b 3), .inl (kk 0, 64, .inl ft)), ((b 4), .inl (kk 0, 896, .inl dy)), ((b 5), .inl (kk 0, 128, .inl kp)), ((b 6), .inl (kk 2, 2, .inl ik)), ((b 7), .inl (kk 0, 6, .inl jb))]) H := hP
  replace hD : va_D A ([(h, .inr (8, moF b (upd q 0 0))), ((b 1), .inl (kk 0, 120, .inl tx)), ((b 2), .inl (kk 0, 64, .inl f)), ((b 3), .inl (kk 0, 64, .inl ft)), ((b 4), .inl (kk 0, 896, .inl dy)), ((b 5), .inl (kk 0, 128, .inl kp)), ((b 6), .inl (kk 2, 2, .inl ik)), ((b 7), .inl (kk 0, 6, .inl jb))]) := hD
  refine lv_aload_n hx hb dX8_errorPosition_5 rfl (lv_at hl 0 rfl) ?_
  refine lv_aload_n hx hb dX8_errorPosition_6 rfl (lv_at hl 0 rfl) ?_
  refine r_get (v := .ref (b 3)) hx hb hts hown hK hP fl_X8_16 0 rfl rfl dX8_errorPosition_7 ?_
  refine k_goI (k_runV (rest := []) (As := [.ref (b 3)]) hx hb hml hown hts hK hP hD hS hA hE hl.1 (c_X8_readText l G kk h b (upd q 0 0) tx ft jb sz ((pk_un (by decide)).trans hs) hz) vl_X8_172 rfl rfl rfl ⟨Nat.le_of_ble_eq_true rfl, Nat.le_of_ble_eq_true rfl, rfl, rfl⟩ [0, 1, 3, 7] rfl rfl ⟨Nat.zero_le _, Nat.zero_le _⟩ rfl (Nat.le_of_ble_eq_true rfl) dX8_errorPosition_10) hP hD hS hA [0, 1, 3, 7] rfl ads4 (fun H locs hP hD hS => ?_)
  replace hP : va_P G vwCl ([(h, .inr (8, moF b ((sX8_readText (upd q 0 0) tx ft jb).2.1))), ((b 1), .inl (kk 0, 120, .inl tx)), ((b 2), .inl (kk 0, 64, .inl f)), ((b 3), .inl (kk 0, 64, .inl ((sX8_readText (upd q 0 0) tx ft jb).2.2.1))), ((b 4), .inl (kk 0, 896, .inl dy)), ((b 5), .inl (kk 0, 128, .inl kp)), ((b 6), .inl (kk 2, 2, .inl ik)), ((b 7), .inl (kk 0, 6, .inl ((sX8_readText (upd q 0 0) tx ft jb).2.2.2)))]) H := hP
  replace hD : va_D A ([(h, .inr (8, moF b ((sX8_readText (upd q 0 0) tx ft jb).2.1))), ((b 1), .inl (kk 0, 120, .inl tx)), ((b 2), .inl (kk 0, 64, .inl f)), ((b 3), .inl (kk 0, 64, .inl ((sX8_readText (upd q 0 0) tx ft jb).2.2.1))), ((b 4), .inl (kk 0, 896, .inl dy)), ((b 5), .inl (kk 0, 128, .inl kp)), ((b 6), .inl (kk 2, 2, .inl ik)), ((b 7), .inl (kk 0, 6, .inl ((sX8_readText (upd q 0 0) tx ft jb).2.2.2)))]) := hD
  have eS : sX8_errorPosition q tx f ft dy kp ik jb = sX8_errorPosition_z_1 q tx f ft dy kp ik jb (sX8_readText (upd q 0 0) tx ft jb) := eS
  generalize sX8_readText (upd q 0 0) tx ft jb = z_1 at hP hD eS ⊢
  exact fin_i hx hb hr hlocks hK (vP_eq (congrArg (fun z : Int32 × (Nat → Int32) × (Nat → Int32) × (Nat → Int32) => ([(h, .inr (8, moF b z.2.1)), ((b 1), .inl (kk 0, 120, .inl tx)), ((b 2), .inl (kk 0, 64, .inl f)), ((b 3), .inl (kk 0, 64, .inl z.2.2.1)), ((b 4), .inl (kk 0, 896, .inl dy)), ((b 5), .inl (kk 0, 128, .inl kp)), ((b 6), .inl (kk 2, 2, .inl ik)), ((b 7), .inl (kk 0, 6, .inl z.2.2.2))] : va_W)) eS.symm) hP) (vD_eq (congrArg (fun z : Int32 × (Nat → Int32) × (Nat → Int32) × (Nat → Int32) => ([(h, .inr (8, moF b z.2.1)), ((b 1), .inl (kk 0, 120, .inl tx)), ((b 2), .inl (kk 0, 64, .inl f)), ((b 3), .inl (kk 0, 64, .inl z.2.2.1)), ((b 4), .inl (kk 0, 896, .inl dy)), ((b 5), .inl (kk 0, 128, .inl kp)), ((b 6), .inl (kk 2, 2, .inl ik)), ((b 7), .inl (kk 0, 6, .inl z.2.2.2))] : va_W)) eS.symm) hD) hS ((congrArg (fun z : Int32 × (Nat → Int32) × (Nat → Int32) × (Nat → Int32) => z.1) eS).trans rfl) dX8_errorPosition_13
