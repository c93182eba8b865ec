theorem lt6 {f : Nat → Int32} {n : Nat} (hn : f 0 = nI n) (h6 : n ≤ 6) (h : ¬ 6 ≤ f 0) : n < 6 := by
  rcases Nat.lt_or_ge n 6 with q | q
  · exact q
  · have : n = 6 := by omega
    subst this
    rw [hn] at h
    exact absurd (by decide) h
theorem isSt_in {w v : Int32} (h : ¬ sX8_isSetting w v = 0) : w = nI w.toNatClampNeg ∧ w.toNatClampNeg < 6 := by
  unfold sX8_isSetting at h
  by_cases c : sX8_in w.toInt64 0 5 = 0
  · rw [if_pos c] at h; exact absurd rfl h
  · exact in_n (n := 5) c rfl
theorem ud_2 {q : Nat → Int32} {c : Nat} (hq : q 6 = nI c) (h : ¬ q 6 = 0) : 1 ≤ c := by
  rcases Nat.lt_or_ge c 1 with r | r
  · have : c = 0 := by omega
    subst this
    exact absurd hq h
  · exact r
theorem ud_1 {q : Nat → Int32} {c : Nat} (hq : q 6 = nI c) (h : ¬ q 6 = 0) : q 6 - 1 = nI (c - 1) := by
  rw [hq]
  exact pk_sub (ud_2 hq h)
theorem td15 (a : Int) : a.tmod 15 + a.tdiv 15 * 15 = a ∧ -15 < a.tmod 15 ∧ a.tmod 15 < 15 :=
  ⟨Int.tmod_add_tdiv_mul a 15, Int.lt_tmod_of_pos a (by decide), Int.tmod_lt_of_pos a (by decide)⟩
theorem ts15 (a : Int) : (0 ≤ a → 0 ≤ a.tmod 15) ∧ (a ≤ 0 → a.tmod 15 ≤ 0) := by
  refine ⟨fun h => Int.tmod_nonneg _ h, fun h => ?_⟩
  have h1 := Int.tmod_nonneg (a := -a) 15 (by omega)
  rw [Int.neg_tmod] at h1
  omega
theorem rem15 (x : Int32) : (x - x / 15 * 15).toInt = x.toInt.tmod 15 := by
  have h1 := x.le_toInt
  have h2 := x.toInt_lt
  obtain ⟨h3, h4, h5⟩ := td15 x.toInt
  obtain ⟨h6, h7⟩ := ts15 x.toInt
  have e15 : (15 : Int32).toInt = 15 := rfl
  have hq : (x / 15).toInt = x.toInt.tdiv 15 := by
    rw [Int32.toInt_div, e15, Int.bmod_eq_of_le] <;> omega
  have hm : (x.toInt.tdiv 15 * 15).bmod (2 ^ 32) = x.toInt.tdiv 15 * 15 := by
    rw [Int.bmod_eq_of_le] <;> omega
  rw [Int32.toInt_sub, Int32.toInt_mul, hq, e15, hm, Int.bmod_eq_of_le (by omega) (by omega)]
  omega
theorem ml_ne (f : Nat → Int32) : ¬ sX8_minutesLeft f = 0 := by
  unfold sX8_minutesLeft
  intro h
  have h2 : ((15 : Int32) - ((f 1 + f 11) - (f 1 + f 11) / 15 * 15)).toInt = 0 := by rw [h]; rfl
  obtain ⟨h3, h4, h5⟩ := td15 (f 1 + f 11).toInt
  have e15 : (15 : Int32).toInt = 15 := rfl
  rw [Int32.toInt_sub, rem15, e15, Int.bmod_eq_of_le] at h2 <;> omega
def sX8_add_z_2 (q : Nat → Int32) (tx : Nat → Int32) (f : Nat → Int32) (ft : Nat → Int32) (dy : Nat → Int32) (kp : Nat → Int32) (ik : Nat → Int32) (jb : Nat → Int32) (n : Nat) (x : Int32) (y : Int32) (z : Int32) (cc : Nat) (z_1 : (Nat → Int32) × (Nat → Int32)) (z_2 : Int32 × (Nat → Int32)) : Int32 × (Nat → Int32) × (Nat → Int32) × (Nat → Int32) :=
  (z_2.1, z_1.1, z_2.2, z_1.2)
def sX8_add_z_1 (q : Nat → Int32) (tx : Nat → Int32) (f : Nat → Int32) (ft : Nat → Int32) (dy : Nat → Int32) (kp : Nat → Int32) (ik : Nat → Int32) (jb : Nat → Int32) (n : Nat) (x : Int32) (y : Int32) (z : Int32) (cc : Nat) (z_1 : (Nat → Int32) × (Nat → Int32)) : Int32 × (Nat → Int32) × (Nat → Int32) × (Nat → Int32) :=
  (sX8_add_z_2 q tx f ft dy kp ik jb n x y z cc z_1 (sX8_addOn f n x y z))
def sX8_add (q : Nat → Int32) (tx : Nat → Int32) (f : Nat → Int32) (ft : Nat → Int32) (dy : Nat → Int32) (kp : Nat → Int32) (ik : Nat → Int32) (jb : Nat → Int32) (n : Nat) (x : Int32) (y : Int32) (z : Int32) (cc : Nat) : Int32 × (Nat → Int32) × (Nat → Int32) × (Nat → Int32) :=
  (if (sX8_isNew x y z) = 0 then (0, (upd q 0 1), f, dy) else (if 6 ≤ (f 0) then (0, (upd q 0 2), f, dy) else (sX8_add_z_1 q tx f ft dy kp ik jb n x y z cc (sX8_remember (upd q 0 0) tx f ft dy kp ik jb cc))))
set_option maxRecDepth 100000 in
set_option maxHeartbeats 4000000 in
theorem c_X8_add (l : Launch) (G : va_G) (kk : Nat → ClassId) (h : Nat) (b : Nat → Nat) (q : Nat → Int32) (tx : Nat → Int32) (f : Nat → Int32) (ft : Nat → Int32) (dy : Nat → Int32) (kp : Nat → Int32) (ik : Nat → Int32) (jb : Nat → Int32) (n : Nat) (x : Int32) (y : Int32) (z : Int32) (cc : Nat) (hn : f 0 = nI n) (h6 : n ≤ 6) (hq : q 6 = nI cc) (hc : cc ≤ 14) : CC l yX8_add cX8_add 4 (some .int) (rmO 2 48) [.ref h, .int x, .int y, .int z] G kk ([(h, .inr (8, moF b q)), ((b 1), .inl (kk 0, 120, .inl tx)), ((b 2), .inl (kk 0, 64, .inl f)), ((b 3), .inl (kk 0, 64, .inl ft)), ((b 4), .inl (kk 0, 896, .inl dy)), ((b 5), .inl (kk 0, 128, .inl kp)), ((b 6), .inl (kk 2, 2, .inl ik)), ((b 7), .inl (kk 0, 6, .inl jb))]) (QI G kk ([(h, .inr (8, moF b ((sX8_add q tx f ft dy kp ik jb n x y z cc).2.1))), ((b 1), .inl (kk 0, 120, .inl tx)), ((b 2), .inl (kk 0, 64, .inl ((sX8_add q tx f ft dy kp ik jb n x y z cc).2.2.1))), ((b 3), .inl (kk 0, 64, .inl ft)), ((b 4), .inl (kk 0, 896, .inl ((sX8_add q tx f ft dy kp ik jb n x y z cc).2.2.2))), ((b 5), .inl (kk 0, 128, .inl kp)), ((b 6), .inl (kk 2, 2, .inl ik)), ((b 7), .inl (kk 0, 6, .inl jb))]) ((sX8_add q tx f ft dy kp ik jb n x y z cc).1)) := by
  refine cc_start (by decide +kernel) (Nat.le_of_ble_eq_true rfl) ?_
  intro p e s m below meth c A ls hx hb hr hml hown hts hlocks hA hE hK hP hD hS hl
  have hown : s.vm.findClass RX8 = some m.cls := hown
  have hl : lv_has ls 4 [(0, .ref h), (1, .int x), (2, .int y), (3, .int z)] := hl
  have eS : sX8_add q tx f ft dy kp ik jb n x y z cc = sX8_add q tx f ft dy kp ik jb n x y z cc := rfl
  refine lv_aload_n hx hb dX8_add_0 rfl (lv_at hl 0 rfl) ?_
  refine lv_iload_n hx hb dX8_add_1 rfl (lv_at hl 1 rfl) ?_
  refine lv_iload_n hx hb dX8_add_2 rfl (lv_at hl 2 rfl) ?_
  refine lv_iload_n hx hb dX8_add_3 rfl (lv_at hl 3 rfl) ?_
  refine k_goI (k_runS (rest := [.ref h]) (As := [.int x, .int y, .int z]) hx hb hml hown hts hK hP hD hS hA hE hl.1 (c_X8_isNew l G kk x y z ) sl_X8_146 ⟨Nat.le_of_ble_eq_true rfl, Nat.le_of_ble_eq_true rfl, rfl, rfl⟩ [] rfl rfl ⟨Nat.zero_le _, Nat.zero_le _⟩ rfl (Nat.le_of_ble_eq_true rfl) dX8_add_4) hP hD hS hA [] rfl ads0 (fun H locs hP hD hS => ?_)
  replace hP : va_P G vwCl ([(h, .inr (8, moF b q)), ((b 1), .inl (kk 0, 120, .inl tx)), ((b 2), .inl (kk 0, 64, .inl f)), ((b 3), .inl (kk 0, 64, .inl ft)), ((b 4), .inl (kk 0, 896, .inl dy)), ((b 5), .inl (kk 0, 128, .inl kp)), ((b 6), .inl (kk 2, 2, .inl ik)), ((b 7), .inl (kk 0, 6, .inl jb))]) H := hP
  replace hD : va_D A ([(h, .inr (8, moF b q)), ((b 1), .inl (kk 0, 120, .inl tx)), ((b 2), .inl (kk 0, 64, .inl f)), ((b 3), .inl (kk 0, 64, .inl ft)), ((b 4), .inl (kk 0, 896, .inl dy)), ((b 5), .inl (kk 0, 128, .inl kp)), ((b 6), .inl (kk 2, 2, .inl ik)), ((b 7), .inl (kk 0, 6, .inl jb))]) := hD
  refine lv_if_ne (tgt := 14) hx hb dX8_add_7 (by decide) (fun c_7 => ?_) (fun c_7 => ?_)
  · have eS := eS.trans (if_neg c_7)
    refine lv_aload_n hx hb dX8_add_14 rfl (lv_at hl 0 rfl) ?_
    refine r_get (v := .ref (b 2)) hx hb hts hown hK hP fl_X8_13 0 rfl rfl dX8_add_15 ?_
    refine lv_iconst (v := 0) hx hb dX8_add_18 (by decide) ?_
    refine r_iald hx hb hK hP 2 rfl 0 rfl (by decide) (by decide) dX8_add_19 ?_
    refine lv_bipush (v := 6) hx hb dX8_add_20 (by decide) ?_
    refine lv_icmp_ge (tgt := 29) hx hb dX8_add_22 (by decide) (fun c_22 => ?_) (fun c_22 => ?_)
    · have eS := eS.trans (if_pos c_22)
      refine lv_iconst (v := 2) hx hb dX8_add_29 (by decide) ?_
      refine k_goI (k_runV (rest := []) (As := [.int 2]) hx hb hml hown hts hK hP hD hS hA hE hl.1 (c_X8_refused9 l G kk h b q 2) vl_X8_119 rfl rfl rfl ⟨Nat.le_of_ble_eq_true rfl, Nat.le_of_ble_eq_true rfl, rfl, rfl⟩ [0] rfl rfl ⟨Nat.zero_le _, Nat.zero_le _⟩ rfl (Nat.le_of_ble_eq_true rfl) dX8_add_30) hP hD hS hA [0] rfl ads1 (fun H locs hP hD hS => ?_)
      replace hP : va_P G vwCl ([(h, .inr (8, moF b (upd q 0 2))), ((b 1), .inl (kk 0, 120, .inl tx)), ((b 2), .inl (kk 0, 64, .inl f)), ((b 3), .inl (kk 0, 64, .inl ft)), ((b 4), .inl (kk 0, 896, .inl dy)), ((b 5), .inl (kk 0, 128, .inl kp)), ((b 6), .inl (kk 2, 2, .inl ik)), ((b 7), .inl (kk 0, 6, .inl jb))]) H := hP
      replace hD : va_D A ([(h, .inr (8, moF b (upd q 0 2))), ((b 1), .inl (kk 0, 120, .inl tx)), ((b 2), .inl (kk 0, 64, .inl f)), ((b 3), .inl (kk 0, 64, .inl ft)), ((b 4), .inl (kk 0, 896, .inl dy)), ((b 5), .inl (kk 0, 128, .inl kp)), ((b 6), .inl (kk 2, 2, .inl ik)), ((b 7), .inl (kk 0, 6, .inl jb))]) := hD
      refine top_eq (y := 1) (by decide) ?_
      refine lv_if_eq (tgt := 38) hx hb dX8_add_33 (by decide) (fun c_33 => absurd c_33 (by decide)) (fun c_33 => ?_)
      refine lv_iconst (v := 0) hx hb dX8_add_36 (by decide) ?_
      exact fin_i hx hb hr hlocks hK (vP_eq (congrArg (fun z : Int32 × (Nat → Int32) × (Nat → Int32) × (Nat → Int32) => ([(h, .inr (8, moF b z.2.1)), ((b 1), .inl (kk 0, 120, .inl tx)), ((b 2), .inl (kk 0, 64, .inl z.2.2.1)), ((b 3), .inl (kk 0, 64, .inl ft)), ((b 4), .inl (kk 0, 896, .inl z.2.2.2)), ((b 5), .inl (kk 0, 128, .inl kp)), ((b 6), .inl (kk 2, 2, .inl ik)), ((b 7), .inl (kk 0, 6, .inl jb))] : va_W)) eS.symm) hP) (vD_eq (congrArg (fun z : Int32 × (Nat → Int32) × (Nat → Int32) × (Nat → Int32) => ([(h, .inr (8, moF b z.2.1)), ((b 1), .inl (kk 0, 120, .inl tx)), ((b 2), .inl (kk 0, 64, .inl z.2.2.1)), ((b 3), .inl (kk 0, 64, .inl ft)), ((b 4), .inl (kk 0, 896, .inl z.2.2.2)), ((b 5), .inl (kk 0, 128, .inl kp)), ((b 6), .inl (kk 2, 2, .inl ik)), ((b 7), .inl (kk 0, 6, .inl jb))] : va_W)) eS.symm) hD) hS (congrArg (fun z : Int32 × (Nat → Int32) × (Nat → Int32) × (Nat → Int32) => z.1) eS) dX8_add_37
    · have eS := eS.trans (if_neg c_22)
      refine lv_iconst (v := 0) hx hb dX8_add_25 (by decide) ?_
      refine lv_goto (tgt := 30) hx hb dX8_add_26 (by decide) ?_
      refine k_goI (k_runV (rest := []) (As := [.int 0]) hx hb hml hown hts hK hP hD hS hA hE hl.1 (c_X8_refused9 l G kk h b q 0) vl_X8_119 rfl rfl rfl ⟨Nat.le_of_ble_eq_true rfl, Nat.le_of_ble_eq_true rfl, rfl, rfl⟩ [0] rfl rfl ⟨Nat.zero_le _, Nat.zero_le _⟩ rfl (Nat.le_of_ble_eq_true rfl) dX8_add_30) hP hD hS hA [0] rfl ads1 (fun H locs hP hD hS => ?_)
      replace hP : va_P G vwCl ([(h, .inr (8, moF b (upd q 0 0))), ((b 1), .inl (kk 0, 120, .inl tx)), ((b 2), .inl (kk 0, 64, .inl f)), ((b 3), .inl (kk 0, 64, .inl ft)), ((b 4), .inl (kk 0, 896, .inl dy)), ((b 5), .inl (kk 0, 128, .inl kp)), ((b 6), .inl (kk 2, 2, .inl ik)), ((b 7), .inl (kk 0, 6, .inl jb))]) H := hP
      replace hD : va_D A ([(h, .inr (8, moF b (upd q 0 0))), ((b 1), .inl (kk 0, 120, .inl tx)), ((b 2), .inl (kk 0, 64, .inl f)), ((b 3), .inl (kk 0, 64, .inl ft)), ((b 4), .inl (kk 0, 896, .inl dy)), ((b 5), .inl (kk 0, 128, .inl kp)), ((b 6), .inl (kk 2, 2, .inl ik)), ((b 7), .inl (kk 0, 6, .inl jb))]) := hD
      refine top_eq (y := 0) (by decide) ?_
      refine lv_if_eq (tgt := 38) hx hb dX8_add_33 (by decide) (fun c_33 => ?_) (fun c_33 => absurd (by decide) c_33)
      refine lv_aload_n hx hb dX8_add_38 rfl (lv_at hl 0 rfl) ?_
      refine k_goV (k_runV (rest := []) (As := []) hx hb hml hown hts hK hP hD hS hA hE hl.1 (c_X8_remember l G kk h b (upd q 0 0) tx f ft dy kp ik jb cc ((pk_un (by decide)).trans hq) hc) vl_X8_186 rfl rfl rfl ⟨Nat.le_of_ble_eq_true rfl, Nat.le_of_ble_eq_true rfl, rfl, rfl⟩ [0, 1, 2, 3, 4, 5, 6, 7] rfl rfl ⟨Nat.zero_le _, Nat.zero_le _⟩ rfl (Nat.le_of_ble_eq_true rfl) dX8_add_39) hP hD hS hA [0, 1, 2, 3, 4, 5, 6, 7] rfl ads8 (fun H locs hP hD hS => ?_)
      replace hP : va_P G vwCl ([(h, .inr (8, moF b ((sX8_remember (upd q 0 0) tx f ft dy kp ik jb cc).1))), ((b 1), .inl (kk 0, 120, .inl tx)), ((b 2), .inl (kk 0, 64, .inl f)), ((b 3), .inl (kk 0, 64, .inl ft)), ((b 4), .inl (kk 0, 896, .inl ((sX8_remember (upd q 0 0) tx f ft dy kp ik jb cc).2))), ((b 5), .inl (kk 0, 128, .inl kp)), ((b 6), .inl (kk 2, 2, .inl ik)), ((b 7), .inl (kk 0, 6, .inl jb))]) H := hP
      replace hD : va_D A ([(h, .inr (8, moF b ((sX8_remember (upd q 0 0) tx f ft dy kp ik jb cc).1))), ((b 1), .inl (kk 0, 120, .inl tx)), ((b 2), .inl (kk 0, 64, .inl f)), ((b 3), .inl (kk 0, 64, .inl ft)), ((b 4), .inl (kk 0, 896, .inl ((sX8_remember (upd q 0 0) tx f ft dy kp ik jb cc).2))), ((b 5), .inl (kk 0, 128, .inl kp)), ((b 6), .inl (kk 2, 2, .inl ik)), ((b 7), .inl (kk 0, 6, .inl jb))]) := hD
      have eS : sX8_add q tx f ft dy kp ik jb n x y z cc = sX8_add_z_1 q tx f ft dy kp ik jb n x y z cc (sX8_remember (upd q 0 0) tx f ft dy kp ik jb cc) := eS
      generalize sX8_remember (upd q 0 0) tx f ft dy kp ik jb cc = z_1 at hP hD eS ⊢
      refine lv_aload_n hx hb dX8_add_42 rfl (lv_at hl 0 rfl) ?_
      refine r_get (v := .ref (b 2)) hx hb hts hown hK hP fl_X8_13 0 rfl rfl dX8_add_43 ?_
      refine lv_iload_n hx hb dX8_add_46 rfl (lv_at hl 1 rfl) ?_
      refine lv_iload_n hx hb dX8_add_47 rfl (lv_at hl 2 rfl) ?_
      refine lv_iload_n hx hb dX8_add_48 rfl (lv_at hl 3 rfl) ?_
      refine k_goI (k_runS (rest := []) (As := [.ref (b 2), .int x, .int y, .int z]) hx hb hml hown hts hK hP hD hS hA hE hl.1 (c_X8_addOn l G kk (b 2) f n x y z hn (lt6 hn h6 c_22)) sl_X8_150 ⟨Nat.le_of_ble_eq_true rfl, Nat.le_of_ble_eq_true rfl, rfl, rfl⟩ [2] rfl rfl ⟨Nat.zero_le _, Nat.zero_le _⟩ rfl (Nat.le_of_ble_eq_true rfl) dX8_add_49) hP hD hS hA [2] rfl ads1 (fun H locs hP hD hS => ?_)
      replace hP : va_P G vwCl ([(h, .inr (8, moF b z_1.1)), ((b 1), .inl (kk 0, 120, .inl tx)), ((b 2), .inl (kk 0, 64, .inl ((sX8_addOn f n x y z).2))), ((b 3), .inl (kk 0, 64, .inl ft)), ((b 4), .inl (kk 0, 896, .inl z_1.2)), ((b 5), .inl (kk 0, 128, .inl kp)), ((b 6), .inl (kk 2, 2, .inl ik)), ((b 7), .inl (kk 0, 6, .inl jb))]) H := hP
      replace hD : va_D A ([(h, .inr (8, moF b z_1.1)), ((b 1), .inl (kk 0, 120, .inl tx)), ((b 2), .inl (kk 0, 64, .inl ((sX8_addOn f n x y z).2))), ((b 3), .inl (kk 0, 64, .inl ft)), ((b 4), .inl (kk 0, 896, .inl z_1.2)), ((b 5), .inl (kk 0, 128, .inl kp)), ((b 6), .inl (kk 2, 2, .inl ik)), ((b 7), .inl (kk 0, 6, .inl jb))]) := hD
      have eS : sX8_add q tx f ft dy kp ik jb n x y z cc = sX8_add_z_2 q tx f ft dy kp ik jb n x y z cc z_1 (sX8_addOn f n x y z) := eS
      generalize sX8_addOn f n x y z = z_2 at hP hD eS ⊢
      exact fin_i hx hb hr hlocks hK (vP_eq (congrArg (fun z : Int32 × (Nat → Int32) × (Nat → Int32) × (Nat → Int32) => ([(h, .inr (8, moF b z.2.1)), ((b 1), .inl (kk 0, 120, .inl tx)), ((b 2), .inl (kk 0, 64, .inl z.2.2.1)), ((b 3), .inl (kk 0, 64, .inl ft)), ((b 4), .inl (kk 0, 896, .inl z.2.2.2)), ((b 5), .inl (kk 0, 128, .inl kp)), ((b 6), .inl (kk 2, 2, .inl ik)), ((b 7), .inl (kk 0, 6, .inl jb))] : va_W)) eS.symm) hP) (vD_eq (congrArg (fun z : Int32 × (Nat → Int32) × (Nat → Int32) × (Nat → Int32) => ([(h, .inr (8, moF b z.2.1)), ((b 1), .inl (kk 0, 120, .inl tx)), ((b 2), .inl (kk 0, 64, .inl z.2.2.1)), ((b 3), .inl (kk 0, 64, .inl ft)), ((b 4), .inl (kk 0, 896, .inl z.2.2.2)), ((b 5), .inl (kk 0, 128, .inl kp)), ((b 6), .inl (kk 2, 2, .inl ik)), ((b 7), .inl (kk 0, 6, .inl jb))] : va_W)) eS.symm) hD) hS (congrArg (fun z : Int32 × (Nat → Int32) × (Nat → Int32) × (Nat → Int32) => z.1) eS) dX8_add_52
  · have eS := eS.trans (if_pos c_7)
    refine lv_iconst (v := 1) hx hb dX8_add_10 (by decide) ?_
    refine lv_goto (tgt := 30) hx hb dX8_add_11 (by decide) ?_
    refine k_goI (k_runV (rest := []) (As := [.int 1]) hx hb hml hown hts hK hP hD hS hA hE hl.1 (c_X8_refused9 l G kk h b q 1) vl_X8_119 rfl rfl rfl ⟨Nat.le_of_ble_eq_true rfl, Nat.le_of_ble_eq_true rfl, rfl, rfl⟩ [0] rfl rfl ⟨Nat.zero_le _, Nat.zero_le _⟩ rfl (Nat.le_of_ble_eq_true rfl) dX8_add_30) hP hD hS hA [0] rfl ads1 (fun H locs hP hD hS => ?_)
    replace hP : va_P G vwCl ([(h, .inr (8, moF b (upd q 0 1))), ((b 1), .inl (kk 0, 120, .inl tx)), ((b 2), .inl (kk 0, 64, .inl f)), ((b 3), .inl (kk 0, 64, .inl ft)), ((b 4), .inl (kk 0, 896, .inl dy)), ((b 5), .inl (kk 0, 128, .inl kp)), ((b 6), .inl (kk 2, 2, .inl ik)), ((b 7), .inl (kk 0, 6, .inl jb))]) H := hP
    replace hD : va_D A ([(h, .inr (8, moF b (upd q 0 1))), ((b 1), .inl (kk 0, 120, .inl tx)), ((b 2), .inl (kk 0, 64, .inl f)), ((b 3), .inl (kk 0, 64, .inl ft)), ((b 4), .inl (kk 0, 896, .inl dy)), ((b 5), .inl (kk 0, 128, .inl kp)), ((b 6), .inl (kk 2, 2, .inl ik)), ((b 7), .inl (kk 0, 6, .inl jb))]) := hD
    refine top_eq (y := 1) (by decide) ?_
    refine lv_if_eq (tgt := 38) hx hb dX8_add_33 (by decide) (fun c_33 => absurd c_33 (by decide)) (fun c_33 => ?_)
    refine lv_iconst (v := 0) hx hb dX8_add_36 (by decide) ?_
    exact fin_i hx hb hr hlocks hK (vP_eq (congrArg (fun z : Int32 × (Nat → Int32) × (Nat → Int32) × (Nat → Int32) => ([(h, .inr (8, moF b z.2.1)), ((b 1), .inl (kk 0, 120, .inl tx)), ((b 2), .inl (kk 0, 64, .inl z.2.2.1)), ((b 3), .inl (kk 0, 64, .inl ft)), ((b 4), .inl (kk 0, 896, .inl z.2.2.2)), ((b 5), .inl (kk 0, 128, .inl kp)), ((b 6), .inl (kk 2, 2, .inl ik)), ((b 7), .inl (kk 0, 6, .inl jb))] : va_W)) eS.symm) hP) (vD_eq (congrArg (fun z : Int32 × (Nat → Int32) × (Nat → Int32) × (Nat → Int32) => ([(h, .inr (8, moF b z.2.1)), ((b 1), .inl (kk 0, 120, .inl tx)), ((b 2), .inl (kk 0, 64, .inl z.2.2.1)), ((b 3), .inl (kk 0, 64, .inl ft)), ((b 4), .inl (kk 0, 896, .inl z.2.2.2)), ((b 5), .inl (kk 0, 128, .inl kp)), ((b 6), .inl (kk 2, 2, .inl ik)), ((b 7), .inl (kk 0, 6, .inl jb))] : va_W)) eS.symm) hD) hS (congrArg (fun z : Int32 × (Nat → Int32) × (Nat → Int32) × (Nat → Int32) => z.1) eS) dX8_add_37
def sX8_door_z_2 (q : Nat → Int32) (tx : Nat → Int32) (f : Nat → Int32) (ft : Nat → Int32) (dy : Nat → Int32) (kp : Nat → Int32) (ik : Nat → Int32) (jb : Nat → Int32) (n : Nat) (x : Int32) (y : Int32) (cc : Nat) (z_1 : (Nat → Int32) × (Nat → Int32)) (z_2 : Int32 × (Nat → Int32)) : Int32 × (Nat → Int32) × (Nat → Int32) × (Nat → Int32) :=
  (z_2.1, z_1.1, z_2.2, z_1.2)
def sX8_door_z_1 (q : Nat → Int32) (tx : Nat → Int32) (f : Nat → Int32) (ft : Nat → Int32) (dy : Nat → Int32) (kp : Nat → Int32) (ik : Nat → Int32) (jb : Nat → Int32) (n : Nat) (x : Int32) (y : Int32) (cc : Nat) (z_1 : (Nat → Int32) × (Nat → Int32)) : Int32 × (Nat → Int32) × (Nat → Int32) × (Nat → Int32) :=
  (sX8_door_z_2 q tx f ft dy kp ik jb n x y cc z_1 (sX8_doorOn f n x.toNatClampNeg y))
def sX8_door (q : Nat → Int32) (tx : Nat → Int32) (f : Nat → Int32) (ft : Nat → Int32) (dy : Nat → Int32) (kp : Nat → Int32) (ik : Nat → Int32) (jb : Nat → Int32) (n : Nat) (x : Int32) (y : Int32) (cc : Nat) : Int32 × (Nat → Int32) × (Nat → Int32) × (Nat → Int32) :=
  (if (sX8_isRoom f x) = 0 then (0, (upd q 0 1), f, dy) else (sX8_door_z_1 q tx f ft dy kp ik jb n x y cc (sX8_remember (upd q 0 0) tx f ft dy kp ik jb cc)))
set_option maxRecDepth 100000 in
set_option maxHeartbeats 4000000 in
theorem c_X8_door (l : Launch) (G : va_G) (kk : Nat → ClassId) (h : Nat) (b : Nat → Nat) (q : Nat → Int32) (tx : Nat → Int32) (f : Nat → Int32) (ft : Nat → Int32) (dy : Nat → Int32) (kp : Nat → Int32) (ik : Nat → Int32) (jb : Nat → Int32) (n : Nat) (x : Int32) (y : Int32) (cc : Nat) (hn : f 0 = nI n) (h6 : n ≤ 6) (hq : q 6 = nI cc) (hc : cc ≤ 14) : CC l yX8_door cX8_door 3 (some .int) (rmO 2 47) [.ref h, .int x, .int y] G kk ([(h, .inr (8, moF b q)), ((b 1), .inl (kk 0, 120, .inl tx)), ((b 2), .inl (kk 0, 64, .inl f)), ((b 3), .inl (kk 0, 64, .inl ft)), ((b 4), .inl (kk 0, 896, .inl dy)), ((b 5), .inl (kk 0, 128, .inl kp)), ((b 6), .inl (kk 2, 2, .inl ik)), ((b 7), .inl (kk 0, 6, .inl jb))]) (QI G kk ([(h, .inr (8, moF b ((sX8_door q tx f ft dy kp ik jb n x y cc).2.1))), ((b 1), .inl (kk 0, 120, .inl tx)), ((b 2), .inl (kk 0, 64, .inl ((sX8_door q tx f ft dy kp ik jb n x y cc).2.2.1))), ((b 3), .inl (kk 0, 64, .inl ft)), ((b 4), .inl (kk 0, 896, .inl ((sX8_door q tx f ft dy kp ik jb n x y cc).2.2.2))), ((b 5), .inl (kk 0, 128, .inl kp)), ((b 6), .inl (kk 2, 2, .inl ik)), ((b 7), .inl (kk 0, 6, .inl jb))]) ((sX8_door q tx f ft dy kp ik jb n x y cc).1)) := by
  refine cc_start (by decide +kernel) (Nat.le_of_ble_eq_true rfl) ?_
  intro p e s m below meth c A ls hx hb hr hml hown hts hlocks hA hE hK hP hD hS hl
  have hown : s.vm.findClass RX8 = some m.cls := hown
  have hl : lv_has ls 3 [(0, .ref h), (1, .int x), (2, .int y)] := hl
  have eS : sX8_door q tx f ft dy kp ik jb n x y cc = sX8_door q tx f ft dy kp ik jb n x y cc := rfl
  refine lv_aload_n hx hb dX8_door_0 rfl (lv_at hl 0 rfl) ?_
  refine lv_aload_n hx hb dX8_door_1 rfl (lv_at hl 0 rfl) ?_
  refine r_get (v := .ref (b 2)) hx hb hts hown hK hP fl_X8_13 0 rfl rfl dX8_door_2 ?_
  refine lv_iload_n hx hb dX8_door_5 rfl (lv_at hl 1 rfl) ?_
  refine k_goI (k_runS (rest := [.ref h]) (As := [.ref (b 2), .int x]) hx hb hml hown hts hK hP hD hS hA hE hl.1 (c_X8_isRoom l G kk (b 2) f x ) sl_X8_158 ⟨Nat.le_of_ble_eq_true rfl, Nat.le_of_ble_eq_true rfl, rfl, rfl⟩ [2] rfl rfl ⟨Nat.zero_le _, Nat.zero_le _⟩ rfl (Nat.le_of_ble_eq_true rfl) dX8_door_6) hP hD hS hA [2] rfl ads1 (fun H locs hP hD hS => ?_)
  replace hP : va_P G vwCl ([(h, .inr (8, moF b q)), ((b 1), .inl (kk 0, 120, .inl tx)), ((b 2), .inl (kk 0, 64, .inl f)), ((b 3), .inl (kk 0, 64, .inl ft)), ((b 4), .inl (kk 0, 896, .inl dy)), ((b 5), .inl (kk 0, 128, .inl kp)), ((b 6), .inl (kk 2, 2, .inl ik)), ((b 7), .inl (kk 0, 6, .inl jb))]) H := hP
  replace hD : va_D A ([(h, .inr (8, moF b q)), ((b 1), .inl (kk 0, 120, .inl tx)), ((b 2), .inl (kk 0, 64, .inl f)), ((b 3), .inl (kk 0, 64, .inl ft)), ((b 4), .inl (kk 0, 896, .inl dy)), ((b 5), .inl (kk 0, 128, .inl kp)), ((b 6), .inl (kk 2, 2, .inl ik)), ((b 7), .inl (kk 0, 6, .inl jb))]) := hD
  refine lv_if_eq (tgt := 16) hx hb dX8_door_9 (by decide) (fun c_9 => ?_) (fun c_9 => ?_)
  · have eS := eS.trans (if_pos c_9)
    refine lv_iconst (v := 1) hx hb dX8_door_16 (by decide) ?_
    refine k_goI (k_runV (rest := []) (As := [.int 1]) hx hb hml hown hts hK hP hD hS hA hE hl.1 (c_X8_refused9 l G kk h b q 1) vl_X8_119 rfl rfl rfl ⟨Nat.le_of_ble_eq_true rfl, Nat.le_of_ble_eq_true rfl, rfl, rfl⟩ [0] rfl rfl ⟨Nat.zero_le _, Nat.zero_le _⟩ rfl (Nat.le_of_ble_eq_true rfl) dX8_door_17) hP hD hS hA [0] rfl ads1 (fun H locs hP hD hS => ?_)
    replace hP : va_P G vwCl ([(h, .inr (8, moF b (upd q 0 1))), ((b 1), .inl (kk 0, 120, .inl tx)), ((b 2), .inl (kk 0, 64, .inl f)), ((b 3), .inl (kk 0, 64, .inl ft)), ((b 4), .inl (kk 0, 896, .inl dy)), ((b 5), .inl (kk 0, 128, .inl kp)), ((b 6), .inl (kk 2, 2, .inl ik)), ((b 7), .inl (kk 0, 6, .inl jb))]) H := hP
    replace hD : va_D A ([(h, .inr (8, moF b (upd q 0 1))), ((b 1), .inl (kk 0, 120, .inl tx)), ((b 2), .inl (kk 0, 64, .inl f)), ((b 3), .inl (kk 0, 64, .inl ft)), ((b 4), .inl (kk 0, 896, .inl dy)), ((b 5), .inl (kk 0, 128, .inl kp)), ((b 6), .inl (kk 2, 2, .inl ik)), ((b 7), .inl (kk 0, 6, .inl jb))]) := hD
    refine top_eq (y := 1) (by decide) ?_
    refine lv_if_eq (tgt := 25) hx hb dX8_door_20 (by decide) (fun c_20 => absurd c_20 (by decide)) (fun c_20 => ?_)
    refine lv_iconst (v := 0) hx hb dX8_door_23 (by decide) ?_
    exact fin_i hx hb hr hlocks hK (vP_eq (congrArg (fun z : Int32 × (Nat → Int32) × (Nat → Int32) × (Nat → Int32) => ([(h, .inr (8, moF b z.2.1)), ((b 1), .inl (kk 0, 120, .inl tx)), ((b 2), .inl (kk 0, 64, .inl z.2.2.1)), ((b 3), .inl (kk 0, 64, .inl ft)), ((b 4), .inl (kk 0, 896, .inl z.2.2.2)), ((b 5), .inl (kk 0, 128, .inl kp)), ((b 6), .inl (kk 2, 2, .inl ik)), ((b 7), .inl (kk 0, 6, .inl jb))] : va_W)) eS.symm) hP) (vD_eq (congrArg (fun z : Int32 × (Nat → Int32) × (Nat → Int32) × (Nat → Int32) => ([(h, .inr (8, moF b z.2.1)), ((b 1), .inl (kk 0, 120, .inl tx)), ((b 2), .inl (kk 0, 64, .inl z.2.2.1)), ((b 3), .inl (kk 0, 64, .inl ft)), ((b 4), .inl (kk 0, 896, .inl z.2.2.2)), ((b 5), .inl (kk 0, 128, .inl kp)), ((b 6), .inl (kk 2, 2, .inl ik)), ((b 7), .inl (kk 0, 6, .inl jb))] : va_W)) eS.symm) hD) hS (congrArg (fun z : Int32 × (Nat → Int32) × (Nat → Int32) × (Nat → Int32) => z.1) eS) dX8_door_24
  · have eS := eS.trans (if_neg c_9)
    refine lv_iconst (v := 0) hx hb dX8_door_12 (by decide) ?_
    refine lv_goto (tgt := 17) hx hb dX8_door_13 (by decide) ?_
    refine k_goI (k_runV (rest := []) (As := [.int 0]) hx hb hml hown hts hK hP hD hS hA hE hl.1 (c_X8_refused9 l G kk h b q 0) vl_X8_119 rfl rfl rfl ⟨Nat.le_of_ble_eq_true rfl, Nat.le_of_ble_eq_true rfl, rfl, rfl⟩ [0] rfl rfl ⟨Nat.zero_le _, Nat.zero_le _⟩ rfl (Nat.le_of_ble_eq_true rfl) dX8_door_17) hP hD hS hA [0] rfl ads1 (fun H locs hP hD hS => ?_)
    replace hP : va_P G vwCl ([(h, .inr (8, moF b (upd q 0 0))), ((b 1), .inl (kk 0, 120, .inl tx)), ((b 2), .inl (kk 0, 64, .inl f)), ((b 3), .inl (kk 0, 64, .inl ft)), ((b 4), .inl (kk 0, 896, .inl dy)), ((b 5), .inl (kk 0, 128, .inl kp)), ((b 6), .inl (kk 2, 2, .inl ik)), ((b 7), .inl (kk 0, 6, .inl jb))]) H := hP
    replace hD : va_D A ([(h, .inr (8, moF b (upd q 0 0))), ((b 1), .inl (kk 0, 120, .inl tx)), ((b 2), .inl (kk 0, 64, .inl f)), ((b 3), .inl (kk 0, 64, .inl ft)), ((b 4), .inl (kk 0, 896, .inl dy)), ((b 5), .inl (kk 0, 128, .inl kp)), ((b 6), .inl (kk 2, 2, .inl ik)), ((b 7), .inl (kk 0, 6, .inl jb))]) := hD
    refine top_eq (y := 0) (by decide) ?_
    refine lv_if_eq (tgt := 25) hx hb dX8_door_20 (by decide) (fun c_20 => ?_) (fun c_20 => absurd (by decide) c_20)
    obtain ⟨hx1, hx2⟩ := isRoom_in hn h6 c_9
    refine lv_aload_n hx hb dX8_door_25 rfl (lv_at hl 0 rfl) ?_
    refine k_goV (k_runV (rest := []) (As := []) hx hb hml hown hts hK hP hD hS hA hE hl.1 (c_X8_remember l G kk h b (upd q 0 0) tx f ft dy kp ik jb cc ((pk_un (by decide)).trans hq) hc) vl_X8_186 rfl rfl rfl ⟨Nat.le_of_ble_eq_true rfl, Nat.le_of_ble_eq_true rfl, rfl, rfl⟩ [0, 1, 2, 3, 4, 5, 6, 7] rfl rfl ⟨Nat.zero_le _, Nat.zero_le _⟩ rfl (Nat.le_of_ble_eq_true rfl) dX8_door_26) hP hD hS hA [0, 1, 2, 3, 4, 5, 6, 7] rfl ads8 (fun H locs hP hD hS => ?_)
    replace hP : va_P G vwCl ([(h, .inr (8, moF b ((sX8_remember (upd q 0 0) tx f ft dy kp ik jb cc).1))), ((b 1), .inl (kk 0, 120, .inl tx)), ((b 2), .inl (kk 0, 64, .inl f)), ((b 3), .inl (kk 0, 64, .inl ft)), ((b 4), .inl (kk 0, 896, .inl ((sX8_remember (upd q 0 0) tx f ft dy kp ik jb cc).2))), ((b 5), .inl (kk 0, 128, .inl kp)), ((b 6), .inl (kk 2, 2, .inl ik)), ((b 7), .inl (kk 0, 6, .inl jb))]) H := hP
    replace hD : va_D A ([(h, .inr (8, moF b ((sX8_remember (upd q 0 0) tx f ft dy kp ik jb cc).1))), ((b 1), .inl (kk 0, 120, .inl tx)), ((b 2), .inl (kk 0, 64, .inl f)), ((b 3), .inl (kk 0, 64, .inl ft)), ((b 4), .inl (kk 0, 896, .inl ((sX8_remember (upd q 0 0) tx f ft dy kp ik jb cc).2))), ((b 5), .inl (kk 0, 128, .inl kp)), ((b 6), .inl (kk 2, 2, .inl ik)), ((b 7), .inl (kk 0, 6, .inl jb))]) := hD
    have eS : sX8_door q tx f ft dy kp ik jb n x y cc = sX8_door_z_1 q tx f ft dy kp ik jb n x y cc (sX8_remember (upd q 0 0) tx f ft dy kp ik jb cc) := eS
    generalize sX8_remember (upd q 0 0) tx f ft dy kp ik jb cc = z_1 at hP hD eS ⊢
    refine lv_aload_n hx hb dX8_door_29 rfl (lv_at hl 0 rfl) ?_
    refine r_get (v := .ref (b 2)) hx hb hts hown hK hP fl_X8_13 0 rfl rfl dX8_door_30 ?_
    refine lv_iload_n hx hb dX8_door_33 rfl (lv_at hl 1 rfl) ?_
    refine top_eq (y := (nI x.toNatClampNeg)) (hx1) ?_
    refine lv_iload_n hx hb dX8_door_34 rfl (lv_at hl 2 rfl) ?_
    refine k_goI (k_runS (rest := []) (As := [.ref (b 2), .int (nI x.toNatClampNeg), .int y]) hx hb hml hown hts hK hP hD hS hA hE hl.1 (c_X8_doorOn l G kk (b 2) f n x.toNatClampNeg y hn h6 (by omega)) sl_X8_161 ⟨Nat.le_of_ble_eq_true rfl, Nat.le_of_ble_eq_true rfl, rfl, rfl⟩ [2] rfl rfl ⟨Nat.zero_le _, Nat.zero_le _⟩ rfl (Nat.le_of_ble_eq_true rfl) dX8_door_35) hP hD hS hA [2] rfl ads1 (fun H locs hP hD hS => ?_)
    replace hP : va_P G vwCl ([(h, .inr (8, moF b z_1.1)), ((b 1), .inl (kk 0, 120, .inl tx)), ((b 2), .inl (kk 0, 64, .inl ((sX8_doorOn f n x.toNatClampNeg y).2))), ((b 3), .inl (kk 0, 64, .inl ft)), ((b 4), .inl (kk 0, 896, .inl z_1.2)), ((b 5), .inl (kk 0, 128, .inl kp)), ((b 6), .inl (kk 2, 2, .inl ik)), ((b 7), .inl (kk 0, 6, .inl jb))]) H := hP
    replace hD : va_D A ([(h, .inr (8, moF b z_1.1)), ((b 1), .inl (kk 0, 120, .inl tx)), ((b 2), .inl (kk 0, 64, .inl ((sX8_doorOn f n x.toNatClampNeg y).2))), ((b 3), .inl (kk 0, 64, .inl ft)), ((b 4), .inl (kk 0, 896, .inl z_1.2)), ((b 5), .inl (kk 0, 128, .inl kp)), ((b 6), .inl (kk 2, 2, .inl ik)), ((b 7), .inl (kk 0, 6, .inl jb))]) := hD
    have eS : sX8_door q tx f ft dy kp ik jb n x y cc = sX8_door_z_2 q tx f ft dy kp ik jb n x y cc z_1 (sX8_doorOn f n x.toNatClampNeg y) := eS
    generalize sX8_doorOn f n x.toNatClampNeg y = z_2 at hP hD eS ⊢
    exact fin_i hx hb hr hlocks hK (vP_eq (congrArg (fun z : Int32 × (Nat → Int32) × (Nat → Int32) × (Nat → Int32) => ([(h, .inr (8, moF b z.2.1)), ((b 1), .inl (kk 0, 120, .inl tx)), ((b 2), .inl (kk 0, 64, .inl z.2.2.1)), ((b 3), .inl (kk 0, 64, .inl ft)), ((b 4), .inl (kk 0, 896, .inl z.2.2.2)), ((b 5), .inl (kk 0, 128, .inl kp)), ((b 6), .inl (kk 2, 2, .inl ik)), ((b 7), .inl (kk 0, 6, .inl jb))] : va_W)) eS.symm) hP) (vD_eq (congrArg (fun z : Int32 × (Nat → Int32) × (Nat → Int32) × (Nat → Int32) => ([(h, .inr (8, moF b z.2.1)), ((b 1), .inl (kk 0, 120, .inl tx)), ((b 2), .inl (kk 0, 64, .inl z.2.2.1)), ((b 3), .inl (kk 0, 64, .inl ft)), ((b 4), .inl (kk 0, 896, .inl z.2.2.2)), ((b 5), .inl (kk 0, 128, .inl kp)), ((b 6), .inl (kk 2, 2, .inl ik)), ((b 7), .inl (kk 0, 6, .inl jb))] : va_W)) eS.symm) hD) hS (congrArg (fun z : Int32 × (Nat → Int32) × (Nat → Int32) × (Nat → Int32) => z.1) eS) dX8_door_38
def sX8_goods_z_2 (q : Nat → Int32) (tx : Nat → Int32) (f : Nat → Int32) (ft : Nat → Int32) (dy : Nat → Int32) (kp : Nat → Int32) (ik : Nat → Int32) (jb : Nat → Int32) (n : Nat) (x : Int32) (y : Int32) (cc : Nat) (z_1 : (Nat → Int32) × (Nat → Int32)) (z_2 : Int32 × (Nat → Int32)) : Int32 × (Nat → Int32) × (Nat → Int32) × (Nat → Int32) :=
  (z_2.1, z_1.1, z_2.2, z_1.2)
def sX8_goods_z_1 (q : Nat → Int32) (tx : Nat → Int32) (f : Nat → Int32) (ft : Nat → Int32) (dy : Nat → Int32) (kp : Nat → Int32) (ik : Nat → Int32) (jb : Nat → Int32) (n : Nat) (x : Int32) (y : Int32) (cc : Nat) (z_1 : (Nat → Int32) × (Nat → Int32)) : Int32 × (Nat → Int32) × (Nat → Int32) × (Nat → Int32) :=
  (sX8_goods_z_2 q tx f ft dy kp ik jb n x y cc z_1 (sX8_goodsOn f x.toNatClampNeg y))
def sX8_goods (q : Nat → Int32) (tx : Nat → Int32) (f : Nat → Int32) (ft : Nat → Int32) (dy : Nat → Int32) (kp : Nat → Int32) (ik : Nat → Int32) (jb : Nat → Int32) (n : Nat) (x : Int32) (y : Int32) (cc : Nat) : Int32 × (Nat → Int32) × (Nat → Int32) × (Nat → Int32) :=
  (if (sX8_isRoom f x) = 0 then (0, (upd q 0 1), f, dy) else (if (sX8_in (y.toInt64) (-400) 400) = 0 then (0, (upd q 0 2), f, dy) else (sX8_goods_z_1 q tx f ft dy kp ik jb n x y cc (sX8_remember (upd q 0 0) tx f ft dy kp ik jb cc))))
set_option maxRecDepth 100000 in
set_option maxHeartbeats 4000000 in
theorem c_X8_goods (l : Launch) (G : va_G) (kk : Nat → ClassId) (h : Nat) (b : Nat → Nat) (q : Nat → Int32) (tx : Nat → Int32) (f : Nat → Int32) (ft : Nat → Int32) (dy : Nat → Int32) (kp : Nat → Int32) (ik : Nat → Int32) (jb : Nat → Int32) (n : Nat) (x : Int32) (y : Int32) (cc : Nat) (hn : f 0 = nI n) (h6 : n ≤ 6) (hq : q 6 = nI cc) (hc : cc ≤ 14) : CC l yX8_goods cX8_goods 3 (some .int) (rmO 2 46) [.ref h, .int x, .int y] G kk ([(h, .inr (8, moF b q)), ((b 1), .inl (kk 0, 120, .inl tx)), ((b 2), .inl (kk 0, 64, .inl f)), ((b 3), .inl (kk 0, 64, .inl ft)), ((b 4), .inl (kk 0, 896, .inl dy)), ((b 5), .inl (kk 0, 128, .inl kp)), ((b 6), .inl (kk 2, 2, .inl ik)), ((b 7), .inl (kk 0, 6, .inl jb))]) (QI G kk ([(h, .inr (8, moF b ((sX8_goods q tx f ft dy kp ik jb n x y cc).2.1))), ((b 1), .inl (kk 0, 120, .inl tx)), ((b 2), .inl (kk 0, 64, .inl ((sX8_goods q tx f ft dy kp ik jb n x y cc).2.2.1))), ((b 3), .inl (kk 0, 64, .inl ft)), ((b 4), .inl (kk 0, 896, .inl ((sX8_goods q tx f ft dy kp ik jb n x y cc).2.2.2))), ((b 5), .inl (kk 0, 128, .inl kp)), ((b 6), .inl (kk 2, 2, .inl ik)), ((b 7), .inl (kk 0, 6, .inl jb))]) ((sX8_goods q tx f ft dy kp ik jb n x y cc).1)) := by
  refine cc_start (by decide +kernel) (Nat.le_of_ble_eq_true rfl) ?_
  intro p e s m below meth c A ls hx hb hr hml hown hts hlocks hA hE hK hP hD hS hl
  have hown : s.vm.findClass RX8 = some m.cls := hown
  have hl : lv_has ls 3 [(0, .ref h), (1, .int x), (2, .int y)] := hl
  have eS : sX8_goods q tx f ft dy kp ik jb n x y cc = sX8_goods q tx f ft dy kp ik jb n x y cc := rfl
  refine lv_aload_n hx hb dX8_goods_0 rfl (lv_at hl 0 rfl) ?_
  refine lv_aload_n hx hb dX8_goods_1 rfl (lv_at hl 0 rfl) ?_
  refine r_get (v := .ref (b 2)) hx hb hts hown hK hP fl_X8_13 0 rfl rfl dX8_goods_2 ?_
  refine lv_iload_n hx hb dX8_goods_5 rfl (lv_at hl 1 rfl) ?_
  refine k_goI (k_runS (rest := [.ref h]) (As := [.ref (b 2), .int x]) hx hb hml hown hts hK hP hD hS hA hE hl.1 (c_X8_isRoom l G kk (b 2) f x ) sl_X8_158 ⟨Nat.le_of_ble_eq_true rfl, Nat.le_of_ble_eq_true rfl, rfl, rfl⟩ [2] rfl rfl ⟨Nat.zero_le _, Nat.zero_le _⟩ rfl (Nat.le_of_ble_eq_true rfl) dX8_goods_6) hP hD hS hA [2] rfl ads1 (fun H locs hP hD hS => ?_)
  replace hP : va_P G vwCl ([(h, .inr (8, moF b q)), ((b 1), .inl (kk 0, 120, .inl tx)), ((b 2), .inl (kk 0, 64, .inl f)), ((b 3), .inl (kk 0, 64, .inl ft)), ((b 4), .inl (kk 0, 896, .inl dy)), ((b 5), .inl (kk 0, 128, .inl kp)), ((b 6), .inl (kk 2, 2, .inl ik)), ((b 7), .inl (kk 0, 6, .inl jb))]) H := hP
  replace hD : va_D A ([(h, .inr (8, moF b q)), ((b 1), .inl (kk 0, 120, .inl tx)), ((b 2), .inl (kk 0, 64, .inl f)), ((b 3), .inl (kk 0, 64, .inl ft)), ((b 4), .inl (kk 0, 896, .inl dy)), ((b 5), .inl (kk 0, 128, .inl kp)), ((b 6), .inl (kk 2, 2, .inl ik)), ((b 7), .inl (kk 0, 6, .inl jb))]) := hD
  refine lv_if_ne (tgt := 16) hx hb dX8_goods_9 (by decide) (fun c_9 => ?_) (fun c_9 => ?_)
  · have eS := eS.trans (if_neg c_9)
    refine lv_iload_n hx hb dX8_goods_16 rfl (lv_at hl 2 rfl) ?_
    refine lv_i2l (v := (y.toInt64)) hx hb dX8_goods_17 (by first | rfl | decide) ?_
    refine lv_ldc2 (v := (-400)) hx hb hown (hts _ kl_X8_189) dX8_goods_18 ?_
    refine lv_ldc2 (v := 400) hx hb hown (hts _ kl_X8_191) dX8_goods_21 ?_
    refine k_goI (k_runS (rest := [.ref h]) (As := [.long (y.toInt64), .long (-400), .long 400]) hx hb hml hown hts hK hP hD hS hA hE hl.1 (c_X8_in l G kk (y.toInt64) (-400) 400 ) sl_X8_40 ⟨Nat.le_of_ble_eq_true rfl, Nat.le_of_ble_eq_true rfl, rfl, rfl⟩ [] rfl rfl ⟨Nat.zero_le _, Nat.zero_le _⟩ rfl (Nat.le_of_ble_eq_true rfl) dX8_goods_24) hP hD hS hA [] rfl ads0 (fun H locs hP hD hS => ?_)
    replace hP : va_P G vwCl ([(h, .inr (8, moF b q)), ((b 1), .inl (kk 0, 120, .inl tx)), ((b 2), .inl (kk 0, 64, .inl f)), ((b 3), .inl (kk 0, 64, .inl ft)), ((b 4), .inl (kk 0, 896, .inl dy)), ((b 5), .inl (kk 0, 128, .inl kp)), ((b 6), .inl (kk 2, 2, .inl ik)), ((b 7), .inl (kk 0, 6, .inl jb))]) H := hP
    replace hD : va_D A ([(h, .inr (8, moF b q)), ((b 1), .inl (kk 0, 120, .inl tx)), ((b 2), .inl (kk 0, 64, .inl f)), ((b 3), .inl (kk 0, 64, .inl ft)), ((b 4), .inl (kk 0, 896, .inl dy)), ((b 5), .inl (kk 0, 128, .inl kp)), ((b 6), .inl (kk 2, 2, .inl ik)), ((b 7), .inl (kk 0, 6, .inl jb))]) := hD
    refine lv_if_eq (tgt := 34) hx hb dX8_goods_27 (by decide) (fun c_27 => ?_) (fun c_27 => ?_)
    · have eS := eS.trans (if_pos c_27)
      refine lv_iconst (v := 2) hx hb dX8_goods_34 (by decide) ?_
      refine k_goI (k_runV (rest := []) (As := [.int 2]) hx hb hml hown hts hK hP hD hS hA hE hl.1 (c_X8_refused9 l G kk h b q 2) vl_X8_119 rfl rfl rfl ⟨Nat.le_of_ble_eq_true rfl, Nat.le_of_ble_eq_true rfl, rfl, rfl⟩ [0] rfl rfl ⟨Nat.zero_le _, Nat.zero_le _⟩ rfl (Nat.le_of_ble_eq_true rfl) dX8_goods_35) hP hD hS hA [0] rfl ads1 (fun H locs hP hD hS => ?_)
      replace hP : va_P G vwCl ([(h, .inr (8, moF b (upd q 0 2))), ((b 1), .inl (kk 0, 120, .inl tx)), ((b 2), .inl (kk 0, 64, .inl f)), ((b 3), .inl (kk 0, 64, .inl ft)), ((b 4), .inl (kk 0, 896, .inl dy)), ((b 5), .inl (kk 0, 128, .inl kp)), ((b 6), .inl (kk 2, 2, .inl ik)), ((b 7), .inl (kk 0, 6, .inl jb))]) H := hP
      replace hD : va_D A ([(h, .inr (8, moF b (upd q 0 2))), ((b 1), .inl (kk 0, 120, .inl tx)), ((b 2), .inl (kk 0, 64, .inl f)), ((b 3), .inl (kk 0, 64, .inl ft)), ((b 4), .inl (kk 0, 896, .inl dy)), ((b 5), .inl (kk 0, 128, .inl kp)), ((b 6), .inl (kk 2, 2, .inl ik)), ((b 7), .inl (kk 0, 6, .inl jb))]) := hD
      refine top_eq (y := 1) (by decide) ?_
      refine lv_if_eq (tgt := 43) hx hb dX8_goods_38 (by decide) (fun c_38 => absurd c_38 (by decide)) (fun c_38 => ?_)
      refine lv_iconst (v := 0) hx hb dX8_goods_41 (by decide) ?_
      exact fin_i hx hb hr hlocks hK (vP_eq (congrArg (fun z : Int32 × (Nat → Int32) × (Nat → Int32) × (Nat → Int32) => ([(h, .inr (8, moF b z.2.1)), ((b 1), .inl (kk 0, 120, .inl tx)), ((b 2), .inl (kk 0, 64, .inl z.2.2.1)), ((b 3), .inl (kk 0, 64, .inl ft)), ((b 4), .inl (kk 0, 896, .inl z.2.2.2)), ((b 5), .inl (kk 0, 128, .inl kp)), ((b 6), .inl (kk 2, 2, .inl ik)), ((b 7), .inl (kk 0, 6, .inl jb))] : va_W)) eS.symm) hP) (vD_eq (congrArg (fun z : Int32 × (Nat → Int32) × (Nat → Int32) × (Nat → Int32) => ([(h, .inr (8, moF b z.2.1)), ((b 1), .inl (kk 0, 120, .inl tx)), ((b 2), .inl (kk 0, 64, .inl z.2.2.1)), ((b 3), .inl (kk 0, 64, .inl ft)), ((b 4), .inl (kk 0, 896, .inl z.2.2.2)), ((b 5), .inl (kk 0, 128, .inl kp)), ((b 6), .inl (kk 2, 2, .inl ik)), ((b 7), .inl (kk 0, 6, .inl jb))] : va_W)) eS.symm) hD) hS (congrArg (fun z : Int32 × (Nat → Int32) × (Nat → Int32) × (Nat → Int32) => z.1) eS) dX8_goods_42
    · have eS := eS.trans (if_neg c_27)
      refine lv_iconst (v := 0) hx hb dX8_goods_30 (by decide) ?_
      refine lv_goto (tgt := 35) hx hb dX8_goods_31 (by decide) ?_
      refine k_goI (k_runV (rest := []) (As := [.int 0]) hx hb hml hown hts hK hP hD hS hA hE hl.1 (c_X8_refused9 l G kk h b q 0) vl_X8_119 rfl rfl rfl ⟨Nat.le_of_ble_eq_true rfl, Nat.le_of_ble_eq_true rfl, rfl, rfl⟩ [0] rfl rfl ⟨Nat.zero_le _, Nat.zero_le _⟩ rfl (Nat.le_of_ble_eq_true rfl) dX8_goods_35) hP hD hS hA [0] rfl ads1 (fun H locs hP hD hS => ?_)
      replace hP : va_P G vwCl ([(h, .inr (8, moF b (upd q 0 0))), ((b 1), .inl (kk 0, 120, .inl tx)), ((b 2), .inl (kk 0, 64, .inl f)), ((b 3), .inl (kk 0, 64, .inl ft)), ((b 4), .inl (kk 0, 896, .inl dy)), ((b 5), .inl (kk 0, 128, .inl kp)), ((b 6), .inl (kk 2, 2, .inl ik)), ((b 7), .inl (kk 0, 6, .inl jb))]) H := hP
      replace hD : va_D A ([(h, .inr (8, moF b (upd q 0 0))), ((b 1), .inl (kk 0, 120, .inl tx)), ((b 2), .inl (kk 0, 64, .inl f)), ((b 3), .inl (kk 0, 64, .inl ft)), ((b 4), .inl (kk 0, 896, .inl dy)), ((b 5), .inl (kk 0, 128, .inl kp)), ((b 6), .inl (kk 2, 2, .inl ik)), ((b 7), .inl (kk 0, 6, .inl jb))]) := hD
      refine top_eq (y := 0) (by decide) ?_
      refine lv_if_eq (tgt := 43) hx hb dX8_goods_38 (by decide) (fun c_38 => ?_) (fun c_38 => absurd (by decide) c_38)
      obtain ⟨hx1, hx2⟩ := isRoom_in hn h6 c_9
      refine lv_aload_n hx hb dX8_goods_43 rfl (lv_at hl 0 rfl) ?_
      refine k_goV (k_runV (rest := []) (As := []) hx hb hml hown hts hK hP hD hS hA hE hl.1 (c_X8_remember l G kk h b (upd q 0 0) tx f ft dy kp ik jb cc ((pk_un (by decide)).trans hq) hc) vl_X8_186 rfl rfl rfl ⟨Nat.le_of_ble_eq_true rfl, Nat.le_of_ble_eq_true rfl, rfl, rfl⟩ [0, 1, 2, 3, 4, 5, 6, 7] rfl rfl ⟨Nat.zero_le _, Nat.zero_le _⟩ rfl (Nat.le_of_ble_eq_true rfl) dX8_goods_44) hP hD hS hA [0, 1, 2, 3, 4, 5, 6, 7] rfl ads8 (fun H locs hP hD hS => ?_)
      replace hP : va_P G vwCl ([(h, .inr (8, moF b ((sX8_remember (upd q 0 0) tx f ft dy kp ik jb cc).1))), ((b 1), .inl (kk 0, 120, .inl tx)), ((b 2), .inl (kk 0, 64, .inl f)), ((b 3), .inl (kk 0, 64, .inl ft)), ((b 4), .inl (kk 0, 896, .inl ((sX8_remember (upd q 0 0) tx f ft dy kp ik jb cc).2))), ((b 5), .inl (kk 0, 128, .inl kp)), ((b 6), .inl (kk 2, 2, .inl ik)), ((b 7), .inl (kk 0, 6, .inl jb))]) H := hP
      replace hD : va_D A ([(h, .inr (8, moF b ((sX8_remember (upd q 0 0) tx f ft dy kp ik jb cc).1))), ((b 1), .inl (kk 0, 120, .inl tx)), ((b 2), .inl (kk 0, 64, .inl f)), ((b 3), .inl (kk 0, 64, .inl ft)), ((b 4), .inl (kk 0, 896, .inl ((sX8_remember (upd q 0 0) tx f ft dy kp ik jb cc).2))), ((b 5), .inl (kk 0, 128, .inl kp)), ((b 6), .inl (kk 2, 2, .inl ik)), ((b 7), .inl (kk 0, 6, .inl jb))]) := hD
      have eS : sX8_goods q tx f ft dy kp ik jb n x y cc = sX8_goods_z_1 q tx f ft dy kp ik jb n x y cc (sX8_remember (upd q 0 0) tx f ft dy kp ik jb cc) := eS
      generalize sX8_remember (upd q 0 0) tx f ft dy kp ik jb cc = z_1 at hP hD eS ⊢
      refine lv_aload_n hx hb dX8_goods_47 rfl (lv_at hl 0 rfl) ?_
      refine r_get (v := .ref (b 2)) hx hb hts hown hK hP fl_X8_13 0 rfl rfl dX8_goods_48 ?_
      refine lv_iload_n hx hb dX8_goods_51 rfl (lv_at hl 1 rfl) ?_
      refine top_eq (y := (nI x.toNatClampNeg)) (hx1) ?_
      refine lv_iload_n hx hb dX8_goods_52 rfl (lv_at hl 2 rfl) ?_
      refine k_goI (k_runS (rest := []) (As := [.ref (b 2), .int (nI x.toNatClampNeg), .int y]) hx hb hml hown hts hK hP hD hS hA hE hl.1 (c_X8_goodsOn l G kk (b 2) f x.toNatClampNeg y (by omega)) sl_X8_193 ⟨Nat.le_of_ble_eq_true rfl, Nat.le_of_ble_eq_true rfl, rfl, rfl⟩ [2] rfl rfl ⟨Nat.zero_le _, Nat.zero_le _⟩ rfl (Nat.le_of_ble_eq_true rfl) dX8_goods_53) hP hD hS hA [2] rfl ads1 (fun H locs hP hD hS => ?_)
      replace hP : va_P G vwCl ([(h, .inr (8, moF b z_1.1)), ((b 1), .inl (kk 0, 120, .inl tx)), ((b 2), .inl (kk 0, 64, .inl ((sX8_goodsOn f x.toNatClampNeg y).2))), ((b 3), .inl (kk 0, 64, .inl ft)), ((b 4), .inl (kk 0, 896, .inl z_1.2)), ((b 5), .inl (kk 0, 128, .inl kp)), ((b 6), .inl (kk 2, 2, .inl ik)), ((b 7), .inl (kk 0, 6, .inl jb))]) H := hP
      replace hD : va_D A ([(h, .inr (8, moF b z_1.1)), ((b 1), .inl (kk 0, 120, .inl tx)), ((b 2), .inl (kk 0, 64, .inl ((sX8_goodsOn f x.toNatClampNeg y).2))), ((b 3), .inl (kk 0, 64, .inl ft)), ((b 4), .inl (kk 0, 896, .inl z_1.2)), ((b 5), .inl (kk 0, 128, .inl kp)), ((b 6), .inl (kk 2, 2, .inl ik)), ((b 7), .inl (kk 0, 6, .inl jb))]) := hD
      have eS : sX8_goods q tx f ft dy kp ik jb n x y cc = sX8_goods_z_2 q tx f ft dy kp ik jb n x y cc z_1 (sX8_goodsOn f x.toNatClampNeg y) := eS
      generalize sX8_goodsOn f x.toNatClampNeg y = z_2 at hP hD eS ⊢
      exact fin_i hx hb hr hlocks hK (vP_eq (congrArg (fun z : Int32 × (Nat → Int32) × (Nat → Int32) × (Nat → Int32) => ([(h, .inr (8, moF b z.2.1)), ((b 1), .inl (kk 0, 120, .inl tx)), ((b 2), .inl (kk 0, 64, .inl z.2.2.1)), ((b 3), .inl (kk 0, 64, .inl ft)), ((b 4), .inl (kk 0, 896, .inl z.2.2.2)), ((b 5), .inl (kk 0, 128, .inl kp)), ((b 6), .inl (kk 2, 2, .inl ik)), ((b 7), .inl (kk 0, 6, .inl jb))] : va_W)) eS.symm) hP) (vD_eq (congrArg (fun z : Int32 × (Nat → Int32) × (Nat → Int32) × (Nat → Int32) => ([(h, .inr (8, moF b z.2.1)), ((b 1), .inl (kk 0, 120, .inl tx)), ((b 2), .inl (kk 0, 64, .inl z.2.2.1)), ((b 3), .inl (kk 0, 64, .inl ft)), ((b 4), .inl (kk 0, 896, .inl z.2.2.2)), ((b 5), .inl (kk 0, 128, .inl kp)), ((b 6), .inl (kk 2, 2, .inl ik)), ((b 7), .inl (kk 0, 6, .inl jb))] : va_W)) eS.symm) hD) hS (congrArg (fun z : Int32 × (Nat → Int32) × (Nat → Int32) × (Nat → Int32) => z.1) eS) dX8_goods_56
  · have eS := eS.trans (if_pos c_9)
    refine lv_iconst (v := 1) hx hb dX8_goods_12 (by decide) ?_
    refine lv_goto (tgt := 35) hx hb dX8_goods_13 (by decide) ?_
    refine k_goI (k_runV (rest := []) (As := [.int 1]) hx hb hml hown hts hK hP hD hS hA hE hl.1 (c_X8_refused9 l G kk h b q 1) vl_X8_119 rfl rfl rfl ⟨Nat.le_of_ble_eq_true rfl, Nat.le_of_ble_eq_true rfl, rfl, rfl⟩ [0] rfl rfl ⟨Nat.zero_le _, Nat.zero_le _⟩ rfl (Nat.le_of_ble_eq_true rfl) dX8_goods_35) hP hD hS hA [0] rfl ads1 (fun H locs hP hD hS => ?_)
    replace hP : va_P G vwCl ([(h, .inr (8, moF b (upd q 0 1))), ((b 1), .inl (kk 0, 120, .inl tx)), ((b 2), .inl (kk 0, 64, .inl f)), ((b 3), .inl (kk 0, 64, .inl ft)), ((b 4), .inl (kk 0, 896, .inl dy)), ((b 5), .inl (kk 0, 128, .inl kp)), ((b 6), .inl (kk 2, 2, .inl ik)), ((b 7), .inl (kk 0, 6, .inl jb))]) H := hP
    replace hD : va_D A ([(h, .inr (8, moF b (upd q 0 1))), ((b 1), .inl (kk 0, 120, .inl tx)), ((b 2), .inl (kk 0, 64, .inl f)), ((b 3), .inl (kk 0, 64, .inl ft)), ((b 4), .inl (kk 0, 896, .inl dy)), ((b 5), .inl (kk 0, 128, .inl kp)), ((b 6), .inl (kk 2, 2, .inl ik)), ((b 7), .inl (kk 0, 6, .inl jb))]) := hD
    refine top_eq (y := 1) (by decide) ?_
    refine lv_if_eq (tgt := 43) hx hb dX8_goods_38 (by decide) (fun c_38 => absurd c_38 (by decide)) (fun c_38 => ?_)
    refine lv_iconst (v := 0) hx hb dX8_goods_41 (by decide) ?_
    exact fin_i hx hb hr hlocks hK (vP_eq (congrArg (fun z : Int32 × (Nat → Int32) × (Nat → Int32) × (Nat → Int32) => ([(h, .inr (8, moF b z.2.1)), ((b 1), .inl (kk 0, 120, .inl tx)), ((b 2), .inl (kk 0, 64, .inl z.2.2.1)), ((b 3), .inl (kk 0, 64, .inl ft)), ((b 4), .inl (kk 0, 896, .inl z.2.2.2)), ((b 5), .inl (kk 0, 128, .inl kp)), ((b 6), .inl (kk 2, 2, .inl ik)), ((b 7), .inl (kk 0, 6, .inl jb))] : va_W)) eS.symm) hP) (vD_eq (congrArg (fun z : Int32 × (Nat → Int32) × (Nat → Int32) × (Nat → Int32) => ([(h, .inr (8, moF b z.2.1)), ((b 1), .inl (kk 0, 120, .inl tx)), ((b 2), .inl (kk 0, 64, .inl z.2.2.1)), ((b 3), .inl (kk 0, 64, .inl ft)), ((b 4), .inl (kk 0, 896, .inl z.2.2.2)), ((b 5), .inl (kk 0, 128, .inl kp)), ((b 6), .inl (kk 2, 2, .inl ik)), ((b 7), .inl (kk 0, 6, .inl jb))] : va_W)) eS.symm) hD) hS (congrArg (fun z : Int32 × (Nat → Int32) × (Nat → Int32) × (Nat → Int32) => z.1) eS) dX8_goods_42
def sX8_run_z_2 (q : Nat → Int32) (tx : Nat → Int32) (f : Nat → Int32) (ft : Nat → Int32) (dy : Nat → Int32) (kp : Nat → Int32) (ik : Nat → Int32) (jb : Nat → Int32) (n : Nat) (x : Int32) (cc : Nat) (z_1 : (Nat → Int32) × (Nat → Int32)) (z_2 : Int32 × (Nat → Int32) × (Nat → Int32) × (Nat → Int32)) : Int32 × (Nat → Int32) × (Nat → Int32) × (Nat → Int32) × (Nat → Int32) :=
  (z_2.1, z_2.2.1, z_2.2.2.2, z_1.2, z_2.2.2.1)
def sX8_run_z_1 (q : Nat → Int32) (tx : Nat → Int32) (f : Nat → Int32) (ft : Nat → Int32) (dy : Nat → Int32) (kp : Nat → Int32) (ik : Nat → Int32) (jb : Nat → Int32) (n : Nat) (x : Int32) (cc : Nat) (z_1 : (Nat → Int32) × (Nat → Int32)) : Int32 × (Nat → Int32) × (Nat → Int32) × (Nat → Int32) × (Nat → Int32) :=
  (sX8_run_z_2 q tx f ft dy kp ik jb n x cc z_1 (sX8_runOn z_1.1 jb f x n))
def sX8_run (q : Nat → Int32) (tx : Nat → Int32) (f : Nat → Int32) (ft : Nat → Int32) (dy : Nat → Int32) (kp : Nat → Int32) (ik : Nat → Int32) (jb : Nat → Int32) (n : Nat) (x : Int32) (cc : Nat) : Int32 × (Nat → Int32) × (Nat → Int32) × (Nat → Int32) × (Nat → Int32) :=
  (if (sX8_in (x.toInt64) 1 60) = 0 then (0, (upd q 0 1), f, dy, jb) else (sX8_run_z_1 q tx f ft dy kp ik jb n x cc (sX8_remember (upd q 0 0) tx f ft dy kp ik jb cc)))
set_option maxRecDepth 100000 in
set_option maxHeartbeats 4000000 in
theorem c_X8_run (l : Launch) (G : va_G) (kk : Nat → ClassId) (h : Nat) (b : Nat → Nat) (q : Nat → Int32) (tx : Nat → Int32) (f : Nat → Int32) (ft : Nat → Int32) (dy : Nat → Int32) (kp : Nat → Int32) (ik : Nat → Int32) (jb : Nat → Int32) (n : Nat) (x : Int32) (cc : Nat) (hn : f 0 = nI n) (h6 : n ≤ 6) (hq : q 6 = nI cc) (hc : cc ≤ 14) : CC l yX8_run cX8_run 2 (some .int) (rmO 6 136) [.ref h, .int x] G kk ([(h, .inr (8, moF b q)), ((b 1), .inl (kk 0, 120, .inl tx)), ((b 2), .inl (kk 0, 64, .inl f)), ((b 3), .inl (kk 0, 64, .inl ft)), ((b 4), .inl (kk 0, 896, .inl dy)), ((b 5), .inl (kk 0, 128, .inl kp)), ((b 6), .inl (kk 2, 2, .inl ik)), ((b 7), .inl (kk 0, 6, .inl jb))]) (QI G kk ([(h, .inr (8, moF b ((sX8_run q tx f ft dy kp ik jb n x cc).2.1))), ((b 1), .inl (kk 0, 120, .inl tx)), ((b 2), .inl (kk 0, 64, .inl ((sX8_run q tx f ft dy kp ik jb n x cc).2.2.1))), ((b 3), .inl (kk 0, 64, .inl ft)), ((b 4), .inl (kk 0, 896, .inl ((sX8_run q tx f ft dy kp ik jb n x cc).2.2.2.1))), ((b 5), .inl (kk 0, 128, .inl kp)), ((b 6), .inl (kk 2, 2, .inl ik)), ((b 7), .inl (kk 0, 6, .inl ((sX8_run q tx f ft dy kp ik jb n x cc).2.2.2.2)))]) ((sX8_run q tx f ft dy kp ik jb n x cc).1)) := by
  refine cc_start (by decide +kernel) (Nat.le_of_ble_eq_true rfl) ?_
  intro p e s m below meth c A ls hx hb hr hml hown hts hlocks hA hE hK hP hD hS hl
  have hown : s.vm.findClass RX8 = some m.cls := hown
  have hl : lv_has ls 2 [(0, .ref h), (1, .int x)] := hl
  have eS : sX8_run q tx f ft dy kp ik jb n x cc = sX8_run q tx f ft dy kp ik jb n x cc := rfl
  refine lv_aload_n hx hb dX8_run_0 rfl (lv_at hl 0 rfl) ?_
  refine lv_iload_n hx hb dX8_run_1 rfl (lv_at hl 1 rfl) ?_
  refine lv_i2l (v := (x.toInt64)) hx hb dX8_run_2 (by first | rfl | decide) ?_
  refine lv_lconst (v := 1) hx hb dX8_run_3 rfl ?_
  refine lv_ldc2 (v := 60) hx hb hown (hts _ kl_X8_196) dX8_run_4 ?_
  refine k_goI (k_runS (rest := [.ref h]) (As := [.long (x.toInt64), .long 1, .long 60]) hx hb hml hown hts hK hP hD hS hA hE hl.1 (c_X8_in l G kk (x.toInt64) 1 60 ) sl_X8_40 ⟨Nat.le_of_ble_eq_true rfl, Nat.le_of_ble_eq_true rfl, rfl, rfl⟩ [] rfl rfl ⟨Nat.zero_le _, Nat.zero_le _⟩ rfl (Nat.le_of_ble_eq_true rfl) dX8_run_7) hP hD hS hA [] rfl ads0 (fun H locs hP hD hS => ?_)
  replace hP : va_P G vwCl ([(h, .inr (8, moF b q)), ((b 1), .inl (kk 0, 120, .inl tx)), ((b 2), .inl (kk 0, 64, .inl f)), ((b 3), .inl (kk 0, 64, .inl ft)), ((b 4), .inl (kk 0, 896, .inl dy)), ((b 5), .inl (kk 0, 128, .inl kp)), ((b 6), .inl (kk 2, 2, .inl ik)), ((b 7), .inl (kk 0, 6, .inl jb))]) H := hP
  replace hD : va_D A ([(h, .inr (8, moF b q)), ((b 1), .inl (kk 0, 120, .inl tx)), ((b 2), .inl (kk 0, 64, .inl f)), ((b 3), .inl (kk 0, 64, .inl ft)), ((b 4), .inl (kk 0, 896, .inl dy)), ((b 5), .inl (kk 0, 128, .inl kp)), ((b 6), .inl (kk 2, 2, .inl ik)), ((b 7), .inl (kk 0, 6, .inl jb))]) := hD
  refine lv_if_eq (tgt := 17) hx hb dX8_run_10 (by decide) (fun c_10 => ?_) (fun c_10 => ?_)
  · have eS := eS.trans (if_pos c_10)
    refine lv_iconst (v := 1) hx hb dX8_run_17 (by decide) ?_
    refine k_goI (k_runV (rest := []) (As := [.int 1]) hx hb hml hown hts hK hP hD hS hA hE hl.1 (c_X8_refused9 l G kk h b q 1) vl_X8_119 rfl rfl rfl ⟨Nat.le_of_ble_eq_true rfl, Nat.le_of_ble_eq_true rfl, rfl, rfl⟩ [0] rfl rfl ⟨Nat.zero_le _, Nat.zero_le _⟩ rfl (Nat.le_of_ble_eq_true rfl) dX8_run_18) hP hD hS hA [0] rfl ads1 (fun H locs hP hD hS => ?_)
    replace hP : va_P G vwCl ([(h, .inr (8, moF b (upd q 0 1))), ((b 1), .inl (kk 0, 120, .inl tx)), ((b 2), .inl (kk 0, 64, .inl f)), ((b 3), .inl (kk 0, 64, .inl ft)), ((b 4), .inl (kk 0, 896, .inl dy)), ((b 5), .inl (kk 0, 128, .inl kp)), ((b 6), .inl (kk 2, 2, .inl ik)), ((b 7), .inl (kk 0, 6, .inl jb))]) H := hP
    replace hD : va_D A ([(h, .inr (8, moF b (upd q 0 1))), ((b 1), .inl (kk 0, 120, .inl tx)), ((b 2), .inl (kk 0, 64, .inl f)), ((b 3), .inl (kk 0, 64, .inl ft)), ((b 4), .inl (kk 0, 896, .inl dy)), ((b 5), .inl (kk 0, 128, .inl kp)), ((b 6), .inl (kk 2, 2, .inl ik)), ((b 7), .inl (kk 0, 6, .inl jb))]) := hD
    refine top_eq (y := 1) (by decide) ?_
    refine lv_if_eq (tgt := 26) hx hb dX8_run_21 (by decide) (fun c_21 => absurd c_21 (by decide)) (fun c_21 => ?_)
    refine lv_iconst (v := 0) hx hb dX8_run_24 (by decide) ?_
    exact fin_i hx hb hr hlocks hK (vP_eq (congrArg (fun z : Int32 × (Nat → Int32) × (Nat → Int32) × (Nat → Int32) × (Nat → Int32) => ([(h, .inr (8, moF b z.2.1)), ((b 1), .inl (kk 0, 120, .inl tx)), ((b 2), .inl (kk 0, 64, .inl z.2.2.1)), ((b 3), .inl (kk 0, 64, .inl ft)), ((b 4), .inl (kk 0, 896, .inl z.2.2.2.1)), ((b 5), .inl (kk 0, 128, .inl kp)), ((b 6), .inl (kk 2, 2, .inl ik)), ((b 7), .inl (kk 0, 6, .inl z.2.2.2.2))] : va_W)) eS.symm) hP) (vD_eq (congrArg (fun z : Int32 × (Nat → Int32) × (Nat → Int32) × (Nat → Int32) × (Nat → Int32) => ([(h, .inr (8, moF b z.2.1)), ((b 1), .inl (kk 0, 120, .inl tx)), ((b 2), .inl (kk 0, 64, .inl z.2.2.1)), ((b 3), .inl (kk 0, 64, .inl ft)), ((b 4), .inl (kk 0, 896, .inl z.2.2.2.1)), ((b 5), .inl (kk 0, 128, .inl kp)), ((b 6), .inl (kk 2, 2, .inl ik)), ((b 7), .inl (kk 0, 6, .inl z.2.2.2.2))] : va_W)) eS.symm) hD) hS (congrArg (fun z : Int32 × (Nat → Int32) × (Nat → Int32) × (Nat → Int32) × (Nat → Int32) => z.1) eS) dX8_run_25
  · have eS := eS.trans (if_neg c_10)
    refine lv_iconst (v := 0) hx hb dX8_run_13 (by decide) ?_
    refine lv_goto (tgt := 18) hx hb dX8_run_14 (by decide) ?_
    refine k_goI (k_runV (rest := []) (As := [.int 0]) hx hb hml hown hts hK hP hD hS hA hE hl.1 (c_X8_refused9 l G kk h b q 0) vl_X8_119 rfl rfl rfl ⟨Nat.le_of_ble_eq_true rfl, Nat.le_of_ble_eq_true rfl, rfl, rfl⟩ [0] rfl rfl ⟨Nat.zero_le _, Nat.zero_le _⟩ rfl (Nat.le_of_ble_eq_true rfl) dX8_run_18) hP hD hS hA [0] rfl ads1 (fun H locs hP hD hS => ?_)
    replace hP : va_P G vwCl ([(h, .inr (8, moF b (upd q 0 0))), ((b 1), .inl (kk 0, 120, .inl tx)), ((b 2), .inl (kk 0, 64, .inl f)), ((b 3), .inl (kk 0, 64, .inl ft)), ((b 4), .inl (kk 0, 896, .inl dy)), ((b 5), .inl (kk 0, 128, .inl kp)), ((b 6), .inl (kk 2, 2, .inl ik)), ((b 7), .inl (kk 0, 6, .inl jb))]) H := hP
    replace hD : va_D A ([(h, .inr (8, moF b (upd q 0 0))), ((b 1), .inl (kk 0, 120, .inl tx)), ((b 2), .inl (kk 0, 64, .inl f)), ((b 3), .inl (kk 0, 64, .inl ft)), ((b 4), .inl (kk 0, 896, .inl dy)), ((b 5), .inl (kk 0, 128, .inl kp)), ((b 6), .inl (kk 2, 2, .inl ik)), ((b 7), .inl (kk 0, 6, .inl jb))]) := hD
    refine top_eq (y := 0) (by decide) ?_
    refine lv_if_eq (tgt := 26) hx hb dX8_run_21 (by decide) (fun c_21 => ?_) (fun c_21 => absurd (by decide) c_21)
    obtain ⟨hx1, hx2⟩ := in_p (n := 60) c_10 rfl
    refine lv_aload_n hx hb dX8_run_26 rfl (lv_at hl 0 rfl) ?_
    refine k_goV (k_runV (rest := []) (As := []) hx hb hml hown hts hK hP hD hS hA hE hl.1 (c_X8_remember l G kk h b (upd q 0 0) tx f ft dy kp ik jb cc ((pk_un (by decide)).trans hq) hc) vl_X8_186 rfl rfl rfl ⟨Nat.le_of_ble_eq_true rfl, Nat.le_of_ble_eq_true rfl, rfl, rfl⟩ [0, 1, 2, 3, 4, 5, 6, 7] rfl rfl ⟨Nat.zero_le _, Nat.zero_le _⟩ rfl (Nat.le_of_ble_eq_true rfl) dX8_run_27) hP hD hS hA [0, 1, 2, 3, 4, 5, 6, 7] rfl ads8 (fun H locs hP hD hS => ?_)
    replace hP : va_P G vwCl ([(h, .inr (8, moF b ((sX8_remember (upd q 0 0) tx f ft dy kp ik jb cc).1))), ((b 1), .inl (kk 0, 120, .inl tx)), ((b 2), .inl (kk 0, 64, .inl f)), ((b 3), .inl (kk 0, 64, .inl ft)), ((b 4), .inl (kk 0, 896, .inl ((sX8_remember (upd q 0 0) tx f ft dy kp ik jb cc).2))), ((b 5), .inl (kk 0, 128, .inl kp)), ((b 6), .inl (kk 2, 2, .inl ik)), ((b 7), .inl (kk 0, 6, .inl jb))]) H := hP
    replace hD : va_D A ([(h, .inr (8, moF b ((sX8_remember (upd q 0 0) tx f ft dy kp ik jb cc).1))), ((b 1), .inl (kk 0, 120, .inl tx)), ((b 2), .inl (kk 0, 64, .inl f)), ((b 3), .inl (kk 0, 64, .inl ft)), ((b 4), .inl (kk 0, 896, .inl ((sX8_remember (upd q 0 0) tx f ft dy kp ik jb cc).2))), ((b 5), .inl (kk 0, 128, .inl kp)), ((b 6), .inl (kk 2, 2, .inl ik)), ((b 7), .inl (kk 0, 6, .inl jb))]) := hD
    have eS : sX8_run q tx f ft dy kp ik jb n x cc = sX8_run_z_1 q tx f ft dy kp ik jb n x cc (sX8_remember (upd q 0 0) tx f ft dy kp ik jb cc) := eS
    generalize sX8_remember (upd q 0 0) tx f ft dy kp ik jb cc = z_1 at hP hD eS ⊢
    refine lv_aload_n hx hb dX8_run_30 rfl (lv_at hl 0 rfl) ?_
    refine lv_aload_n hx hb dX8_run_31 rfl (lv_at hl 0 rfl) ?_
    refine r_get (v := .ref (b 2)) hx hb hts hown hK hP fl_X8_13 0 rfl rfl dX8_run_32 ?_
    refine lv_iload_n hx hb dX8_run_35 rfl (lv_at hl 1 rfl) ?_
    refine k_goI (k_runV (rest := []) (As := [.ref (b 2), .int x]) hx hb hml hown hts hK hP hD hS hA hE hl.1 (c_X8_runOn l G kk h b z_1.1 jb (b 2) f x n hn h6 hx1) vl_X8_165 rfl rfl rfl ⟨Nat.le_of_ble_eq_true rfl, Nat.le_of_ble_eq_true rfl, rfl, rfl⟩ [0, 7, 2] rfl rfl ⟨Nat.zero_le _, Nat.zero_le _⟩ rfl (Nat.le_of_ble_eq_true rfl) dX8_run_36) hP hD hS hA [0, 7, 2] rfl ads3 (fun H locs hP hD hS => ?_)
    replace hP : va_P G vwCl ([(h, .inr (8, moF b ((sX8_runOn z_1.1 jb f x n).2.1))), ((b 1), .inl (kk 0, 120, .inl tx)), ((b 2), .inl (kk 0, 64, .inl ((sX8_runOn z_1.1 jb f x n).2.2.2))), ((b 3), .inl (kk 0, 64, .inl ft)), ((b 4), .inl (kk 0, 896, .inl z_1.2)), ((b 5), .inl (kk 0, 128, .inl kp)), ((b 6), .inl (kk 2, 2, .inl ik)), ((b 7), .inl (kk 0, 6, .inl ((sX8_runOn z_1.1 jb f x n).2.2.1)))]) H := hP
    replace hD : va_D A ([(h, .inr (8, moF b ((sX8_runOn z_1.1 jb f x n).2.1))), ((b 1), .inl (kk 0, 120, .inl tx)), ((b 2), .inl (kk 0, 64, .inl ((sX8_runOn z_1.1 jb f x n).2.2.2))), ((b 3), .inl (kk 0, 64, .inl ft)), ((b 4), .inl (kk 0, 896, .inl z_1.2)), ((b 5), .inl (kk 0, 128, .inl kp)), ((b 6), .inl (kk 2, 2, .inl ik)), ((b 7), .inl (kk 0, 6, .inl ((sX8_runOn z_1.1 jb f x n).2.2.1)))]) := hD
    have eS : sX8_run q tx f ft dy kp ik jb n x cc = sX8_run_z_2 q tx f ft dy kp ik jb n x cc z_1 (sX8_runOn z_1.1 jb f x n) := eS
    generalize sX8_runOn z_1.1 jb f x n = z_2 at hP hD eS ⊢
    exact fin_i hx hb hr hlocks hK (vP_eq (congrArg (fun z : Int32 × (Nat → Int32) × (Nat → Int32) × (Nat → Int32) × (Nat → Int32) => ([(h, .inr (8, moF b z.2.1)), ((b 1), .inl (kk 0, 120, .inl tx)), ((b 2), .inl (kk 0, 64, .inl z.2.2.1)), ((b 3), .inl (kk 0, 64, .inl ft)), ((b 4), .inl (kk 0, 896, .inl z.2.2.2.1)), ((b 5), .inl (kk 0, 128, .inl kp)), ((b 6), .inl (kk 2, 2, .inl ik)), ((b 7), .inl (kk 0, 6, .inl z.2.2.2.2))] : va_W)) eS.symm) hP) (vD_eq (congrArg (fun z : Int32 × (Nat → Int32) × (Nat → Int32) × (Nat → Int32) × (Nat → Int32) => ([(h, .inr (8, moF b z.2.1)), ((b 1), .inl (kk 0, 120, .inl tx)), ((b 2), .inl (kk 0, 64, .inl z.2.2.1)), ((b 3), .inl (kk 0, 64, .inl ft)), ((b 4), .inl (kk 0, 896, .inl z.2.2.2.1)), ((b 5), .inl (kk 0, 128, .inl kp)), ((b 6), .inl (kk 2, 2, .inl ik)), ((b 7), .inl (kk 0, 6, .inl z.2.2.2.2))] : va_W)) eS.symm) hD) hS (congrArg (fun z : Int32 × (Nat → Int32) × (Nat → Int32) × (Nat → Int32) × (Nat → Int32) => z.1) eS) dX8_run_39
def sX8_set_z_1 (q : Nat → Int32) (tx : Nat → Int32) (f : Nat → Int32) (ft : Nat → Int32) (dy : Nat → Int32) (kp : Nat → Int32) (ik : Nat → Int32) (jb : Nat → Int32) (x : Int32) (y : Int32) (cc : Nat) (z_1 : (Nat → Int32) × (Nat → Int32)) : Int32 × (Nat → Int32) × (Nat → Int32) × (Nat → Int32) :=
  ((f (10 + x.toNatClampNeg)), z_1.1, (upd f (10 + x.toNatClampNeg) y), z_1.2)
def sX8_set (q : Nat → Int32) (tx : Nat → Int32) (f : Nat → Int32) (ft : Nat → Int32) (dy : Nat → Int32) (kp : Nat → Int32) (ik : Nat → Int32) (jb : Nat → Int32) (x : Int32) (y : Int32) (cc : Nat) : Int32 × (Nat → Int32) × (Nat → Int32) × (Nat → Int32) :=
  (if (sX8_isSetting x y) = 0 then (0, (upd q 0 1), f, dy) else (sX8_set_z_1 q tx f ft dy kp ik jb x y cc (sX8_remember (upd q 0 0) tx f ft dy kp ik jb cc)))
set_option maxRecDepth 100000 in
set_option maxHeartbeats 4000000 in
theorem c_X8_set (l : Launch) (G : va_G) (kk : Nat → ClassId) (h : Nat) (b : Nat → Nat) (q : Nat → Int32) (tx : Nat → Int32) (f : Nat → Int32) (ft : Nat → Int32) (dy : Nat → Int32) (kp : Nat → Int32) (ik : Nat → Int32) (jb : Nat → Int32) (x : Int32) (y : Int32) (cc : Nat) (hq : q 6 = nI cc) (hc : cc ≤ 14) : CC l yX8_set cX8_set 4 (some .int) (rmO 2 46) [.ref h, .int x, .int y] G kk ([(h, .inr (8, moF b q)), ((b 1), .inl (kk 0, 120, .inl tx)), ((b 2), .inl (kk 0, 64, .inl f)), ((b 3), .inl (kk 0, 64, .inl ft)), ((b 4), .inl (kk 0, 896, .inl dy)), ((b 5), .inl (kk 0, 128, .inl kp)), ((b 6), .inl (kk 2, 2, .inl ik)), ((b 7), .inl (kk 0, 6, .inl jb))]) (QI G kk ([(h, .inr (8, moF b ((sX8_set q tx f ft dy kp ik jb x y cc).2.1))), ((b 1), .inl (kk 0, 120, .inl tx)), ((b 2), .inl (kk 0, 64, .inl ((sX8_set q tx f ft dy kp ik jb x y cc).2.2.1))), ((b 3), .inl (kk 0, 64, .inl ft)), ((b 4), .inl (kk 0, 896, .inl ((sX8_set q tx f ft dy kp ik jb x y cc).2.2.2))), ((b 5), .inl (kk 0, 128, .inl kp)), ((b 6), .inl (kk 2, 2, .inl ik)), ((b 7), .inl (kk 0, 6, .inl jb))]) ((sX8_set q tx f ft dy kp ik jb x y cc).1)) := by
  refine cc_start (by decide +kernel) (Nat.le_of_ble_eq_true rfl) ?_
  intro p e s m below meth c A ls hx hb hr hml hown hts hlocks hA hE hK hP hD hS hl
  have hown : s.vm.findClass RX8 = some m.cls := hown
  have hl : lv_has ls 4 [(0, .ref h), (1, .int x), (2, .int y)] := hl
  have eS : sX8_set q tx f ft dy kp ik jb x y cc = sX8_set q tx f ft dy kp ik jb x y cc := rfl
  refine lv_aload_n hx hb dX8_set_0 rfl (lv_at hl 0 rfl) ?_
  refine lv_iload_n hx hb dX8_set_1 rfl (lv_at hl 1 rfl) ?_
  refine lv_iload_n hx hb dX8_set_2 rfl (lv_at hl 2 rfl) ?_
  refine k_goI (k_runS (rest := [.ref h]) (As := [.int x, .int y]) hx hb hml hown hts hK hP hD hS hA hE hl.1 (c_X8_isSetting l G kk x y ) sl_X8_198 ⟨Nat.le_of_ble_eq_true rfl, Nat.le_of_ble_eq_true rfl, rfl, rfl⟩ [] rfl rfl ⟨Nat.zero_le _, Nat.zero_le _⟩ rfl (Nat.le_of_ble_eq_true rfl) dX8_set_3) hP hD hS hA [] rfl ads0 (fun H locs hP hD hS => ?_)
  replace hP : va_P G vwCl ([(h, .inr (8, moF b q)), ((b 1), .inl (kk 0, 120, .inl tx)), ((b 2), .inl (kk 0, 64, .inl f)), ((b 3), .inl (kk 0, 64, .inl ft)), ((b 4), .inl (kk 0, 896, .inl dy)), ((b 5), .inl (kk 0, 128, .inl kp)), ((b 6), .inl (kk 2, 2, .inl ik)), ((b 7), .inl (kk 0, 6, .inl jb))]) H := hP
  replace hD : va_D A ([(h, .inr (8, moF b q)), ((b 1), .inl (kk 0, 120, .inl tx)), ((b 2), .inl (kk 0, 64, .inl f)), ((b 3), .inl (kk 0, 64, .inl ft)), ((b 4), .inl (kk 0, 896, .inl dy)), ((b 5), .inl (kk 0, 128, .inl kp)), ((b 6), .inl (kk 2, 2, .inl ik)), ((b 7), .inl (kk 0, 6, .inl jb))]) := hD
  refine lv_if_eq (tgt := 13) hx hb dX8_set_6 (by decide) (fun c_6 => ?_) (fun c_6 => ?_)
  · have eS := eS.trans (if_pos c_6)
    refine lv_iconst (v := 1) hx hb dX8_set_13 (by decide) ?_
    refine k_goI (k_runV (rest := []) (As := [.int 1]) hx hb hml hown hts hK hP hD hS hA hE hl.1 (c_X8_refused9 l G kk h b q 1) vl_X8_119 rfl rfl rfl ⟨Nat.le_of_ble_eq_true rfl, Nat.le_of_ble_eq_true rfl, rfl, rfl⟩ [0] rfl rfl ⟨Nat.zero_le _, Nat.zero_le _⟩ rfl (Nat.le_of_ble_eq_true rfl) dX8_set_14) hP hD hS hA [0] rfl ads1 (fun H locs hP hD hS => ?_)
    replace hP : va_P G vwCl ([(h, .inr (8, moF b (upd q 0 1))), ((b 1), .inl (kk 0, 120, .inl tx)), ((b 2), .inl (kk 0, 64, .inl f)), ((b 3), .inl (kk 0, 64, .inl ft)), ((b 4), .inl (kk 0, 896, .inl dy)), ((b 5), .inl (kk 0, 128, .inl kp)), ((b 6), .inl (kk 2, 2, .inl ik)), ((b 7), .inl (kk 0, 6, .inl jb))]) H := hP
    replace hD : va_D A ([(h, .inr (8, moF b (upd q 0 1))), ((b 1), .inl (kk 0, 120, .inl tx)), ((b 2), .inl (kk 0, 64, .inl f)), ((b 3), .inl (kk 0, 64, .inl ft)), ((b 4), .inl (kk 0, 896, .inl dy)), ((b 5), .inl (kk 0, 128, .inl kp)), ((b 6), .inl (kk 2, 2, .inl ik)), ((b 7), .inl (kk 0, 6, .inl jb))]) := hD
    refine top_eq (y := 1) (by decide) ?_
    refine lv_if_eq (tgt := 22) hx hb dX8_set_17 (by decide) (fun c_17 => absurd c_17 (by decide)) (fun c_17 => ?_)
    refine lv_iconst (v := 0) hx hb dX8_set_20 (by decide) ?_
    exact fin_i hx hb hr hlocks hK (vP_eq (congrArg (fun z : Int32 × (Nat → Int32) × (Nat → Int32) × (Nat → Int32) => ([(h, .inr (8, moF b z.2.1)), ((b 1), .inl (kk 0, 120, .inl tx)), ((b 2), .inl (kk 0, 64, .inl z.2.2.1)), ((b 3), .inl (kk 0, 64, .inl ft)), ((b 4), .inl (kk 0, 896, .inl z.2.2.2)), ((b 5), .inl (kk 0, 128, .inl kp)), ((b 6), .inl (kk 2, 2, .inl ik)), ((b 7), .inl (kk 0, 6, .inl jb))] : va_W)) eS.symm) hP) (vD_eq (congrArg (fun z : Int32 × (Nat → Int32) × (Nat → Int32) × (Nat → Int32) => ([(h, .inr (8, moF b z.2.1)), ((b 1), .inl (kk 0, 120, .inl tx)), ((b 2), .inl (kk 0, 64, .inl z.2.2.1)), ((b 3), .inl (kk 0, 64, .inl ft)), ((b 4), .inl (kk 0, 896, .inl z.2.2.2)), ((b 5), .inl (kk 0, 128, .inl kp)), ((b 6), .inl (kk 2, 2, .inl ik)), ((b 7), .inl (kk 0, 6, .inl jb))] : va_W)) eS.symm) hD) hS (congrArg (fun z : Int32 × (Nat → Int32) × (Nat → Int32) × (Nat → Int32) => z.1) eS) dX8_set_21
  · have eS := eS.trans (if_neg c_6)
    refine lv_iconst (v := 0) hx hb dX8_set_9 (by decide) ?_
    refine lv_goto (tgt := 14) hx hb dX8_set_10 (by decide) ?_
    refine k_goI (k_runV (rest := []) (As := [.int 0]) hx hb hml hown hts hK hP hD hS hA hE hl.1 (c_X8_refused9 l G kk h b q 0) vl_X8_119 rfl rfl rfl ⟨Nat.le_of_ble_eq_true rfl, Nat.le_of_ble_eq_true rfl, rfl, rfl⟩ [0] rfl rfl ⟨Nat.zero_le _, Nat.zero_le _⟩ rfl (Nat.le_of_ble_eq_true rfl) dX8_set_14) hP hD hS hA [0] rfl ads1 (fun H locs hP hD hS => ?_)
    replace hP : va_P G vwCl ([(h, .inr (8, moF b (upd q 0 0))), ((b 1), .inl (kk 0, 120, .inl tx)), ((b 2), .inl (kk 0, 64, .inl f)), ((b 3), .inl (kk 0, 64, .inl ft)), ((b 4), .inl (kk 0, 896, .inl dy)), ((b 5), .inl (kk 0, 128, .inl kp)), ((b 6), .inl (kk 2, 2, .inl ik)), ((b 7), .inl (kk 0, 6, .inl jb))]) H := hP
    replace hD : va_D A ([(h, .inr (8, moF b (upd q 0 0))), ((b 1), .inl (kk 0, 120, .inl tx)), ((b 2), .inl (kk 0, 64, .inl f)), ((b 3), .inl (kk 0, 64, .inl ft)), ((b 4), .inl (kk 0, 896, .inl dy)), ((b 5), .inl (kk 0, 128, .inl kp)), ((b 6), .inl (kk 2, 2, .inl ik)), ((b 7), .inl (kk 0, 6, .inl jb))]) := hD
    refine top_eq (y := 0) (by decide) ?_
    refine lv_if_eq (tgt := 22) hx hb dX8_set_17 (by decide) (fun c_17 => ?_) (fun c_17 => absurd (by decide) c_17)
    obtain ⟨hx1, hx2⟩ := isSt_in c_6
    refine lv_aload_n hx hb dX8_set_22 rfl (lv_at hl 0 rfl) ?_
    refine k_goV (k_runV (rest := []) (As := []) hx hb hml hown hts hK hP hD hS hA hE hl.1 (c_X8_remember l G kk h b (upd q 0 0) tx f ft dy kp ik jb cc ((pk_un (by decide)).trans hq) hc) vl_X8_186 rfl rfl rfl ⟨Nat.le_of_ble_eq_true rfl, Nat.le_of_ble_eq_true rfl, rfl, rfl⟩ [0, 1, 2, 3, 4, 5, 6, 7] rfl rfl ⟨Nat.zero_le _, Nat.zero_le _⟩ rfl (Nat.le_of_ble_eq_true rfl) dX8_set_23) hP hD hS hA [0, 1, 2, 3, 4, 5, 6, 7] rfl ads8 (fun H locs hP hD hS => ?_)
    replace hP : va_P G vwCl ([(h, .inr (8, moF b ((sX8_remember (upd q 0 0) tx f ft dy kp ik jb cc).1))), ((b 1), .inl (kk 0, 120, .inl tx)), ((b 2), .inl (kk 0, 64, .inl f)), ((b 3), .inl (kk 0, 64, .inl ft)), ((b 4), .inl (kk 0, 896, .inl ((sX8_remember (upd q 0 0) tx f ft dy kp ik jb cc).2))), ((b 5), .inl (kk 0, 128, .inl kp)), ((b 6), .inl (kk 2, 2, .inl ik)), ((b 7), .inl (kk 0, 6, .inl jb))]) H := hP
    replace hD : va_D A ([(h, .inr (8, moF b ((sX8_remember (upd q 0 0) tx f ft dy kp ik jb cc).1))), ((b 1), .inl (kk 0, 120, .inl tx)), ((b 2), .inl (kk 0, 64, .inl f)), ((b 3), .inl (kk 0, 64, .inl ft)), ((b 4), .inl (kk 0, 896, .inl ((sX8_remember (upd q 0 0) tx f ft dy kp ik jb cc).2))), ((b 5), .inl (kk 0, 128, .inl kp)), ((b 6), .inl (kk 2, 2, .inl ik)), ((b 7), .inl (kk 0, 6, .inl jb))]) := hD
    have eS : sX8_set q tx f ft dy kp ik jb x y cc = sX8_set_z_1 q tx f ft dy kp ik jb x y cc (sX8_remember (upd q 0 0) tx f ft dy kp ik jb cc) := eS
    generalize sX8_remember (upd q 0 0) tx f ft dy kp ik jb cc = z_1 at hP hD eS ⊢
    refine lv_aload_n hx hb dX8_set_26 rfl (lv_at hl 0 rfl) ?_
    refine r_get (v := .ref (b 2)) hx hb hts hown hK hP fl_X8_13 0 rfl rfl dX8_set_27 ?_
    refine lv_bipush (v := 10) hx hb dX8_set_30 (by decide) ?_
    refine lv_iload_n hx hb dX8_set_32 rfl (lv_at hl 1 rfl) ?_
    refine top_eq (y := (nI x.toNatClampNeg)) (hx1) ?_
    refine lv_iadd hx hb dX8_set_33 ?_
    refine top_eq (nI_add 10 x.toNatClampNeg) ?_
    refine r_iald hx hb hK hP 2 rfl (10 + x.toNatClampNeg) rfl (by omega) (by decide) dX8_set_34 ?_
    refine lv_istore_n (lv' := [(3, .int (f (10 + x.toNatClampNeg))), (0, .ref h), (1, .int x), (2, .int y)]) hx hb dX8_set_35 rfl hl (by decide) rfl (fun ls hl => ?_)
    refine lv_aload_n hx hb dX8_set_36 rfl (lv_at hl 1 rfl) ?_
    refine r_get (v := .ref (b 2)) hx hb hts hown hK hP fl_X8_13 0 rfl rfl dX8_set_37 ?_
    refine lv_bipush (v := 10) hx hb dX8_set_40 (by decide) ?_
    refine lv_iload_n hx hb dX8_set_42 rfl (lv_at hl 2 rfl) ?_
    refine top_eq (y := (nI x.toNatClampNeg)) (hx1) ?_
    refine lv_iadd hx hb dX8_set_43 ?_
    refine top_eq (nI_add 10 x.toNatClampNeg) ?_
    refine lv_iload_n hx hb dX8_set_44 rfl (lv_at hl 3 rfl) ?_
    refine r_iast hx hb hK hP hD hS 2 rfl (10 + x.toNatClampNeg) rfl (by omega) (by decide) dX8_set_45 (fun H locs hP hD hS => ?_)
    replace hP : va_P G vwCl ([(h, .inr (8, moF b z_1.1)), ((b 1), .inl (kk 0, 120, .inl tx)), ((b 2), .inl (kk 0, 64, .inl (upd f (10 + x.toNatClampNeg) y))), ((b 3), .inl (kk 0, 64, .inl ft)), ((b 4), .inl (kk 0, 896, .inl z_1.2)), ((b 5), .inl (kk 0, 128, .inl kp)), ((b 6), .inl (kk 2, 2, .inl ik)), ((b 7), .inl (kk 0, 6, .inl jb))]) H := hP
    replace hD : va_D A ([(h, .inr (8, moF b z_1.1)), ((b 1), .inl (kk 0, 120, .inl tx)), ((b 2), .inl (kk 0, 64, .inl (upd f (10 + x.toNatClampNeg) y))), ((b 3), .inl (kk 0, 64, .inl ft)), ((b 4), .inl (kk 0, 896, .inl z_1.2)), ((b 5), .inl (kk 0, 128, .inl kp)), ((b 6), .inl (kk 2, 2, .inl ik)), ((b 7), .inl (kk 0, 6, .inl jb))]) := hD
    refine lv_iload_n hx hb dX8_set_46 rfl (lv_at hl 0 rfl) ?_
    exact fin_i hx hb hr hlocks hK (vP_eq (congrArg (fun z : Int32 × (Nat → Int32) × (Nat → Int32) × (Nat → Int32) => ([(h, .inr (8, moF b z.2.1)), ((b 1), .inl (kk 0, 120, .inl tx)), ((b 2), .inl (kk 0, 64, .inl z.2.2.1)), ((b 3), .inl (kk 0, 64, .inl ft)), ((b 4), .inl (kk 0, 896, .inl z.2.2.2)), ((b 5), .inl (kk 0, 128, .inl kp)), ((b 6), .inl (kk 2, 2, .inl ik)), ((b 7), .inl (kk 0, 6, .inl jb))] : va_W)) eS.symm) hP) (vD_eq (congrArg (fun z : Int32 × (Nat → Int32) × (Nat → Int32) × (Nat → Int32) => ([(h, .inr (8, moF b z.2.1)), ((b 1), .inl (kk 0, 120, .inl tx)), ((b 2), .inl (kk 0, 64, .inl z.2.2.1)), ((b 3), .inl (kk 0, 64, .inl ft)), ((b 4), .inl (kk 0, 896, .inl z.2.2.2)), ((b 5), .inl (kk 0, 128, .inl kp)), ((b 6), .inl (kk 2, 2, .inl ik)), ((b 7), .inl (kk 0, 6, .inl jb))] : va_W)) eS.symm) hD) hS (congrArg (fun z : Int32 × (Nat → Int32) × (Nat → Int32) × (Nat → Int32) => z.1) eS) dX8_set_47
def sX8_undo_z_1 (q : Nat → Int32) (tx : Nat → Int32) (f : Nat → Int32) (ft : Nat → Int32) (dy : Nat → Int32) (kp : Nat → Int32) (ik : Nat → Int32) (jb : Nat → Int32) (cc : Nat) (z_1 : (Nat → Int32)) : Int32 × (Nat → Int32) × (Nat → Int32) :=
  ((nI (cc - 1)), (upd (upd q 0 0) 6 (nI (cc - 1))), z_1)
def sX8_undo (q : Nat → Int32) (tx : Nat → Int32) (f : Nat → Int32) (ft : Nat → Int32) (dy : Nat → Int32) (kp : Nat → Int32) (ik : Nat → Int32) (jb : Nat → Int32) (cc : Nat) : Int32 × (Nat → Int32) × (Nat → Int32) :=
  (if (q 6) = 0 then (0, (upd q 0 1), f) else (sX8_undo_z_1 q tx f ft dy kp ik jb cc (sX8_copyState (64 * (cc - 1)) 0 dy f)))
set_option maxRecDepth 100000 in
set_option maxHeartbeats 4000000 in
theorem c_X8_undo (l : Launch) (G : va_G) (kk : Nat → ClassId) (h : Nat) (b : Nat → Nat) (q : Nat → Int32) (tx : Nat → Int32) (f : Nat → Int32) (ft : Nat → Int32) (dy : Nat → Int32) (kp : Nat → Int32) (ik : Nat → Int32) (jb : Nat → Int32) (cc : Nat) (hq : q 6 = nI cc) (hc : cc ≤ 14) : CC l yX8_undo cX8_undo 1 (some .int) (rmO 1 24) [.ref h] G kk ([(h, .inr (8, moF b q)), ((b 1), .inl (kk 0, 120, .inl tx)), ((b 2), .inl (kk 0, 64, .inl f)), ((b 3), .inl (kk 0, 64, .inl ft)), ((b 4), .inl (kk 0, 896, .inl dy)), ((b 5), .inl (kk 0, 128, .inl kp)), ((b 6), .inl (kk 2, 2, .inl ik)), ((b 7), .inl (kk 0, 6, .inl jb))]) (QI G kk ([(h, .inr (8, moF b ((sX8_undo q tx f ft dy kp ik jb cc).2.1))), ((b 1), .inl (kk 0, 120, .inl tx)), ((b 2), .inl (kk 0, 64, .inl ((sX8_undo q tx f ft dy kp ik jb cc).2.2))), ((b 3), .inl (kk 0, 64, .inl ft)), ((b 4), .inl (kk 0, 896, .inl dy)), ((b 5), .inl (kk 0, 128, .inl kp)), ((b 6), .inl (kk 2, 2, .inl ik)), ((b 7), .inl (kk 0, 6, .inl jb))]) ((sX8_undo q tx f ft dy kp ik jb cc).1)) := by
  refine cc_start (by decide +kernel) (Nat.le_of_ble_eq_true rfl) ?_
  intro p e s m below meth c A ls hx hb hr hml hown hts hlocks hA hE hK hP hD hS hl
  have hown : s.vm.findClass RX8 = some m.cls := hown
  have hl : lv_has ls 1 [(0, .ref h)] := hl
  have eS : sX8_undo q tx f ft dy kp ik jb cc = sX8_undo q tx f ft dy kp ik jb cc := rfl
  refine lv_aload_n hx hb dX8_undo_0 rfl (lv_at hl 0 rfl) ?_
  refine lv_aload_n hx hb dX8_undo_1 rfl (lv_at hl 0 rfl) ?_
  refine r_get (v := .int (q 6)) hx hb hts hown hK hP fl_X8_179 0 rfl rfl dX8_undo_2 ?_
  refine lv_if_ne (tgt := 12) hx hb dX8_undo_5 (by decide) (fun c_5 => ?_) (fun c_5 => ?_)
  · have eS := eS.trans (if_neg c_5)
    refine lv_iconst (v := 0) hx hb dX8_undo_12 (by decide) ?_
    refine k_goI (k_runV (rest := []) (As := [.int 0]) hx hb hml hown hts hK hP hD hS hA hE hl.1 (c_X8_refused9 l G kk h b q 0) vl_X8_119 rfl rfl rfl ⟨Nat.le_of_ble_eq_true rfl, Nat.le_of_ble_eq_true rfl, rfl, rfl⟩ [0] rfl rfl ⟨Nat.zero_le _, Nat.zero_le _⟩ rfl (Nat.le_of_ble_eq_true rfl) dX8_undo_13) hP hD hS hA [0] rfl ads1 (fun H locs hP hD hS => ?_)
    replace hP : va_P G vwCl ([(h, .inr (8, moF b (upd q 0 0))), ((b 1), .inl (kk 0, 120, .inl tx)), ((b 2), .inl (kk 0, 64, .inl f)), ((b 3), .inl (kk 0, 64, .inl ft)), ((b 4), .inl (kk 0, 896, .inl dy)), ((b 5), .inl (kk 0, 128, .inl kp)), ((b 6), .inl (kk 2, 2, .inl ik)), ((b 7), .inl (kk 0, 6, .inl jb))]) H := hP
    replace hD : va_D A ([(h, .inr (8, moF b (upd q 0 0))), ((b 1), .inl (kk 0, 120, .inl tx)), ((b 2), .inl (kk 0, 64, .inl f)), ((b 3), .inl (kk 0, 64, .inl ft)), ((b 4), .inl (kk 0, 896, .inl dy)), ((b 5), .inl (kk 0, 128, .inl kp)), ((b 6), .inl (kk 2, 2, .inl ik)), ((b 7), .inl (kk 0, 6, .inl jb))]) := hD
    refine top_eq (y := 0) (by decide) ?_
    refine lv_if_eq (tgt := 21) hx hb dX8_undo_16 (by decide) (fun c_16 => ?_) (fun c_16 => absurd (by decide) c_16)
    have hu := ud_2 hq c_5
    refine lv_aload_n hx hb dX8_undo_21 rfl (lv_at hl 0 rfl) ?_
    refine lv_dup hx hb dX8_undo_22 rfl ?_
    refine r_get (v := .int (q 6)) hx hb hts hown hK hP fl_X8_179 0 rfl rfl dX8_undo_23 ?_
    refine lv_iconst (v := 1) hx hb dX8_undo_26 (by decide) ?_
    refine lv_isub hx hb dX8_undo_27 ?_
    refine top_eq (y := (nI (cc - 1))) (ud_1 hq c_5) ?_
    refine r_put hx hb hts hown hK hP hD hS fl_X8_179 fw_8_6 0 rfl rfl rfl (Nat.le_of_ble_eq_true rfl) dX8_undo_28 (fun H locs hP hD hS => ?_)
    replace hP : va_P G vwCl ([(h, .inr (8, moF b (upd (upd q 0 0) 6 (nI (cc - 1))))), ((b 1), .inl (kk 0, 120, .inl tx)), ((b 2), .inl (kk 0, 64, .inl f)), ((b 3), .inl (kk 0, 64, .inl ft)), ((b 4), .inl (kk 0, 896, .inl dy)), ((b 5), .inl (kk 0, 128, .inl kp)), ((b 6), .inl (kk 2, 2, .inl ik)), ((b 7), .inl (kk 0, 6, .inl jb))]) H := hP
    replace hD : va_D A ([(h, .inr (8, moF b (upd (upd q 0 0) 6 (nI (cc - 1))))), ((b 1), .inl (kk 0, 120, .inl tx)), ((b 2), .inl (kk 0, 64, .inl f)), ((b 3), .inl (kk 0, 64, .inl ft)), ((b 4), .inl (kk 0, 896, .inl dy)), ((b 5), .inl (kk 0, 128, .inl kp)), ((b 6), .inl (kk 2, 2, .inl ik)), ((b 7), .inl (kk 0, 6, .inl jb))]) := hD
    refine lv_aload_n hx hb dX8_undo_31 rfl (lv_at hl 0 rfl) ?_
    refine r_get (v := .ref (b 4)) hx hb hts hown hK hP fl_X8_19 0 rfl rfl dX8_undo_32 ?_
    refine lv_bipush (v := 64) hx hb dX8_undo_35 (by decide) ?_
    refine lv_aload_n hx hb dX8_undo_37 rfl (lv_at hl 0 rfl) ?_
    refine r_get (v := .int (nI (cc - 1))) hx hb hts hown hK hP fl_X8_179 0 rfl rfl dX8_undo_38 ?_
    refine lv_imul hx hb dX8_undo_41 ?_
    refine top_eq (pk_mul 64 (cc - 1)) ?_
    refine lv_aload_n hx hb dX8_undo_42 rfl (lv_at hl 0 rfl) ?_
    refine r_get (v := .ref (b 2)) hx hb hts hown hK hP fl_X8_13 0 rfl rfl dX8_undo_43 ?_
    refine lv_iconst (v := 0) hx hb dX8_undo_46 (by decide) ?_
    refine k_goV (k_runS (rest := []) (As := [.ref (b 4), .int (nI (64 * (cc - 1))), .ref (b 2), .int 0]) hx hb hml hown hts hK hP hD hS hA hE hl.1 (c_X8_copyState l G kk (b 4) (64 * (cc - 1)) (b 2) 0 896 64 dy f (by omega) (by omega) (by decide) (by decide)) sl_X8_175 ⟨Nat.le_of_ble_eq_true rfl, Nat.le_of_ble_eq_true rfl, rfl, rfl⟩ [4, 2] rfl rfl ⟨Nat.zero_le _, Nat.zero_le _⟩ rfl (Nat.le_of_ble_eq_true rfl) dX8_undo_47) hP hD hS hA [4, 2] rfl ads2 (fun H locs hP hD hS => ?_)
    replace hP : va_P G vwCl ([(h, .inr (8, moF b (upd (upd q 0 0) 6 (nI (cc - 1))))), ((b 1), .inl (kk 0, 120, .inl tx)), ((b 2), .inl (kk 0, 64, .inl (sX8_copyState (64 * (cc - 1)) 0 dy f))), ((b 3), .inl (kk 0, 64, .inl ft)), ((b 4), .inl (kk 0, 896, .inl dy)), ((b 5), .inl (kk 0, 128, .inl kp)), ((b 6), .inl (kk 2, 2, .inl ik)), ((b 7), .inl (kk 0, 6, .inl jb))]) H := hP
    replace hD : va_D A ([(h, .inr (8, moF b (upd (upd q 0 0) 6 (nI (cc - 1))))), ((b 1), .inl (kk 0, 120, .inl tx)), ((b 2), .inl (kk 0, 64, .inl (sX8_copyState (64 * (cc - 1)) 0 dy f))), ((b 3), .inl (kk 0, 64, .inl ft)), ((b 4), .inl (kk 0, 896, .inl dy)), ((b 5), .inl (kk 0, 128, .inl kp)), ((b 6), .inl (kk 2, 2, .inl ik)), ((b 7), .inl (kk 0, 6, .inl jb))]) := hD
    have eS : sX8_undo q tx f ft dy kp ik jb cc = sX8_undo_z_1 q tx f ft dy kp ik jb cc (sX8_copyState (64 * (cc - 1)) 0 dy f) := eS
    generalize sX8_copyState (64 * (cc - 1)) 0 dy f = z_1 at hP hD eS ⊢
    refine lv_aload_n hx hb dX8_undo_50 rfl (lv_at hl 0 rfl) ?_
    refine r_get (v := .int (nI (cc - 1))) hx hb hts hown hK hP fl_X8_179 0 rfl rfl dX8_undo_51 ?_
    exact fin_i hx hb hr hlocks hK (vP_eq (congrArg (fun z : Int32 × (Nat → Int32) × (Nat → Int32) => ([(h, .inr (8, moF b z.2.1)), ((b 1), .inl (kk 0, 120, .inl tx)), ((b 2), .inl (kk 0, 64, .inl z.2.2)), ((b 3), .inl (kk 0, 64, .inl ft)), ((b 4), .inl (kk 0, 896, .inl dy)), ((b 5), .inl (kk 0, 128, .inl kp)), ((b 6), .inl (kk 2, 2, .inl ik)), ((b 7), .inl (kk 0, 6, .inl jb))] : va_W)) eS.symm) hP) (vD_eq (congrArg (fun z : Int32 × (Nat → Int32) × (Nat → Int32) => ([(h, .inr (8, moF b z.2.1)), ((b 1), .inl (kk 0, 120, .inl tx)), ((b 2), .inl (kk 0, 64, .inl z.2.2)), ((b 3), .inl (kk 0, 64, .inl ft)), ((b 4), .inl (kk 0, 896, .inl dy)), ((b 5), .inl (kk 0, 128, .inl kp)), ((b 6), .inl (kk 2, 2, .inl ik)), ((b 7), .inl (kk 0, 6, .inl jb))] : va_W)) eS.symm) hD) hS (congrArg (fun z : Int32 × (Nat → Int32) × (Nat → Int32) => z.1) eS) dX8_undo_54
  · have eS := eS.trans (if_pos c_5)
    refine lv_iconst (v := 1) hx hb dX8_undo_8 (by decide) ?_
    refine lv_goto (tgt := 13) hx hb dX8_undo_9 (by decide) ?_
    refine k_goI (k_runV (rest := []) (As := [.int 1]) hx hb hml hown hts hK hP hD hS hA hE hl.1 (c_X8_refused9 l G kk h b q 1) vl_X8_119 rfl rfl rfl ⟨Nat.le_of_ble_eq_true rfl, Nat.le_of_ble_eq_true rfl, rfl, rfl⟩ [0] rfl rfl ⟨Nat.zero_le _, Nat.zero_le _⟩ rfl (Nat.le_of_ble_eq_true rfl) dX8_undo_13) hP hD hS hA [0] rfl ads1 (fun H locs hP hD hS => ?_)
    replace hP : va_P G vwCl ([(h, .inr (8, moF b (upd q 0 1))), ((b 1), .inl (kk 0, 120, .inl tx)), ((b 2), .inl (kk 0, 64, .inl f)), ((b 3), .inl (kk 0, 64, .inl ft)), ((b 4), .inl (kk 0, 896, .inl dy)), ((b 5), .inl (kk 0, 128, .inl kp)), ((b 6), .inl (kk 2, 2, .inl ik)), ((b 7), .inl (kk 0, 6, .inl jb))]) H := hP
    replace hD : va_D A ([(h, .inr (8, moF b (upd q 0 1))), ((b 1), .inl (kk 0, 120, .inl tx)), ((b 2), .inl (kk 0, 64, .inl f)), ((b 3), .inl (kk 0, 64, .inl ft)), ((b 4), .inl (kk 0, 896, .inl dy)), ((b 5), .inl (kk 0, 128, .inl kp)), ((b 6), .inl (kk 2, 2, .inl ik)), ((b 7), .inl (kk 0, 6, .inl jb))]) := hD
    refine top_eq (y := 1) (by decide) ?_
    refine lv_if_eq (tgt := 21) hx hb dX8_undo_16 (by decide) (fun c_16 => absurd c_16 (by decide)) (fun c_16 => ?_)
    refine lv_iconst (v := 0) hx hb dX8_undo_19 (by decide) ?_
    exact fin_i hx hb hr hlocks hK (vP_eq (congrArg (fun z : Int32 × (Nat → Int32) × (Nat → Int32) => ([(h, .inr (8, moF b z.2.1)), ((b 1), .inl (kk 0, 120, .inl tx)), ((b 2), .inl (kk 0, 64, .inl z.2.2)), ((b 3), .inl (kk 0, 64, .inl ft)), ((b 4), .inl (kk 0, 896, .inl dy)), ((b 5), .inl (kk 0, 128, .inl kp)), ((b 6), .inl (kk 2, 2, .inl ik)), ((b 7), .inl (kk 0, 6, .inl jb))] : va_W)) eS.symm) hP) (vD_eq (congrArg (fun z : Int32 × (Nat → Int32) × (Nat → Int32) => ([(h, .inr (8, moF b z.2.1)), ((b 1), .inl (kk 0, 120, .inl tx)), ((b 2), .inl (kk 0, 64, .inl z.2.2)), ((b 3), .inl (kk 0, 64, .inl ft)), ((b 4), .inl (kk 0, 896, .inl dy)), ((b 5), .inl (kk 0, 128, .inl kp)), ((b 6), .inl (kk 2, 2, .inl ik)), ((b 7), .inl (kk 0, 6, .inl jb))] : va_W)) eS.symm) hD) hS (congrArg (fun z : Int32 × (Nat → Int32) × (Nat → Int32) => z.1) eS) dX8_undo_20
def sX8_spare (q : Nat → Int32) (tx : Nat → Int32) (f : Nat → Int32) (ft : Nat → Int32) (dy : Nat → Int32) (kp : Nat → Int32) (ik : Nat → Int32) (jb : Nat → Int32) : Int32 × (Nat → Int32) :=
  (if 0 ≤ (((f 10) - (f 2)) - ((f 12) * (sX8_minutesLeft f))) then (((((f 10) - (f 2)) - ((f 12) * (sX8_minutesLeft f))) / (sX8_minutesLeft f)), (upd q 0 0)) else ((-1), (upd q 0 0)))
set_option maxRecDepth 100000 in
set_option maxHeartbeats 4000000 in
theorem c_X8_spare (l : Launch) (G : va_G) (kk : Nat → ClassId) (h : Nat) (b : Nat → Nat) (q : Nat → Int32) (tx : Nat → Int32) (f : Nat → Int32) (ft : Nat → Int32) (dy : Nat → Int32) (kp : Nat → Int32) (ik : Nat → Int32) (jb : Nat → Int32)  : CC l yX8_spare cX8_spare 3 (some .int) (rmO 1 20) [.ref h] G kk ([(h, .inr (8, moF b q)), ((b 1), .inl (kk 0, 120, .inl tx)), ((b 2), .inl (kk 0, 64, .inl f)), ((b 3), .inl (kk 0, 64, .inl ft)), ((b 4), .inl (kk 0, 896, .inl dy)), ((b 5), .inl (kk 0, 128, .inl kp)), ((b 6), .inl (kk 2, 2, .inl ik)), ((b 7), .inl (kk 0, 6, .inl jb))]) (QI G kk ([(h, .inr (8, moF b ((sX8_spare q tx f ft dy kp ik jb).2))), ((b 1), .inl (kk 0, 120, .inl tx)), ((b 2), .inl (kk 0, 64, .inl f)), ((b 3), .inl (kk 0, 64, .inl ft)), ((b 4), .inl (kk 0, 896, .inl dy)), ((b 5), .inl (kk 0, 128, .inl kp)), ((b 6), .inl (kk 2, 2, .inl ik)), ((b 7), .inl (kk 0, 6, .inl jb))]) ((sX8_spare q tx f ft dy kp ik jb).1)) := by
  refine cc_start (by decide +kernel) (Nat.le_of_ble_eq_true rfl) ?_
  intro p e s m below meth c A ls hx hb hr hml hown hts hlocks hA hE hK hP hD hS hl
  have hown : s.vm.findClass RX8 = some m.cls := hown
  have hl : lv_has ls 3 [(0, .ref h)] := hl
  have eS : sX8_spare q tx f ft dy kp ik jb = sX8_spare q tx f ft dy kp ik jb := rfl
  refine lv_aload_n hx hb dX8_spare_0 rfl (lv_at hl 0 rfl) ?_
  refine lv_iconst (v := 0) hx hb dX8_spare_1 (by decide) ?_
  refine r_put hx hb hts hown hK hP hD hS fl_X8_36 fw_8_0 0 rfl rfl rfl (Nat.le_of_ble_eq_true rfl) dX8_spare_2 (fun H locs hP hD hS => ?_)
  replace hP : va_P G vwCl ([(h, .inr (8, moF b (upd q 0 0))), ((b 1), .inl (kk 0, 120, .inl tx)), ((b 2), .inl (kk 0, 64, .inl f)), ((b 3), .inl (kk 0, 64, .inl ft)), ((b 4), .inl (kk 0, 896, .inl dy)), ((b 5), .inl (kk 0, 128, .inl kp)), ((b 6), .inl (kk 2, 2, .inl ik)), ((b 7), .inl (kk 0, 6, .inl jb))]) H := hP
  replace hD : va_D A ([(h, .inr (8, moF b (upd q 0 0))), ((b 1), .inl (kk 0, 120, .inl tx)), ((b 2), .inl (kk 0, 64, .inl f)), ((b 3), .inl (kk 0, 64, .inl ft)), ((b 4), .inl (kk 0, 896, .inl dy)), ((b 5), .inl (kk 0, 128, .inl kp)), ((b 6), .inl (kk 2, 2, .inl ik)), ((b 7), .inl (kk 0, 6, .inl jb))]) := hD
  refine lv_aload_n hx hb dX8_spare_5 rfl (lv_at hl 0 rfl) ?_
  refine r_get (v := .ref (b 2)) hx hb hts hown hK hP fl_X8_13 0 rfl rfl dX8_spare_6 ?_
  refine k_goI (k_runS (rest := []) (As := [.ref (b 2)]) hx hb hml hown hts hK hP hD hS hA hE hl.1 (c_X8_minutesLeft l G kk (b 2) f ) sl_X8_51 ⟨Nat.le_of_ble_eq_true rfl, Nat.le_of_ble_eq_true rfl, rfl, rfl⟩ [2] rfl rfl ⟨Nat.zero_le _, Nat.zero_le _⟩ rfl (Nat.le_of_ble_eq_true rfl) dX8_spare_9) hP hD hS hA [2] rfl ads1 (fun H locs hP hD hS => ?_)
  replace hP : va_P G vwCl ([(h, .inr (8, moF b (upd q 0 0))), ((b 1), .inl (kk 0, 120, .inl tx)), ((b 2), .inl (kk 0, 64, .inl f)), ((b 3), .inl (kk 0, 64, .inl ft)), ((b 4), .inl (kk 0, 896, .inl dy)), ((b 5), .inl (kk 0, 128, .inl kp)), ((b 6), .inl (kk 2, 2, .inl ik)), ((b 7), .inl (kk 0, 6, .inl jb))]) H := hP
  replace hD : va_D A ([(h, .inr (8, moF b (upd q 0 0))), ((b 1), .inl (kk 0, 120, .inl tx)), ((b 2), .inl (kk 0, 64, .inl f)), ((b 3), .inl (kk 0, 64, .inl ft)), ((b 4), .inl (kk 0, 896, .inl dy)), ((b 5), .inl (kk 0, 128, .inl kp)), ((b 6), .inl (kk 2, 2, .inl ik)), ((b 7), .inl (kk 0, 6, .inl jb))]) := hD
  refine lv_istore_n (lv' := [(1, .int (sX8_minutesLeft f)), (0, .ref h)]) hx hb dX8_spare_12 rfl hl (by decide) rfl (fun ls hl => ?_)
  refine lv_aload_n hx hb dX8_spare_13 rfl (lv_at hl 1 rfl) ?_
  refine r_get (v := .ref (b 2)) hx hb hts hown hK hP fl_X8_13 0 rfl rfl dX8_spare_14 ?_
  refine lv_bipush (v := 10) hx hb dX8_spare_17 (by decide) ?_
  refine r_iald hx hb hK hP 2 rfl 10 rfl (by decide) (by decide) dX8_spare_19 ?_
  refine lv_aload_n hx hb dX8_spare_20 rfl (lv_at hl 1 rfl) ?_
  refine r_get (v := .ref (b 2)) hx hb hts hown hK hP fl_X8_13 0 rfl rfl dX8_spare_21 ?_
  refine lv_iconst (v := 2) hx hb dX8_spare_24 (by decide) ?_
  refine r_iald hx hb hK hP 2 rfl 2 rfl (by decide) (by decide) dX8_spare_25 ?_
  refine lv_isub hx hb dX8_spare_26 ?_
  refine lv_aload_n hx hb dX8_spare_27 rfl (lv_at hl 1 rfl) ?_
  refine r_get (v := .ref (b 2)) hx hb hts hown hK hP fl_X8_13 0 rfl rfl dX8_spare_28 ?_
  refine lv_bipush (v := 12) hx hb dX8_spare_31 (by decide) ?_
  refine r_iald hx hb hK hP 2 rfl 12 rfl (by decide) (by decide) dX8_spare_33 ?_
  refine lv_iload_n hx hb dX8_spare_34 rfl (lv_at hl 0 rfl) ?_
  refine lv_imul hx hb dX8_spare_35 ?_
  refine lv_isub hx hb dX8_spare_36 ?_
  refine lv_istore_n (lv' := [(2, .int (((f 10) - (f 2)) - ((f 12) * (sX8_minutesLeft f)))), (1, .int (sX8_minutesLeft f)), (0, .ref h)]) hx hb dX8_spare_37 rfl hl (by decide) rfl (fun ls hl => ?_)
  refine lv_iload_n hx hb dX8_spare_38 rfl (lv_at hl 0 rfl) ?_
  refine lv_if_ge (tgt := 46) hx hb dX8_spare_39 (by decide) (fun c_39 => ?_) (fun c_39 => ?_)
  · have eS := eS.trans (if_pos c_39)
    refine lv_iload_n hx hb dX8_spare_46 rfl (lv_at hl 0 rfl) ?_
    refine lv_iload_n hx hb dX8_spare_47 rfl (lv_at hl 1 rfl) ?_
    refine lv_idiv hx hb dX8_spare_48 (ml_ne _) ?_
    exact fin_i hx hb hr hlocks hK (vP_eq (congrArg (fun z : Int32 × (Nat → Int32) => ([(h, .inr (8, moF b z.2)), ((b 1), .inl (kk 0, 120, .inl tx)), ((b 2), .inl (kk 0, 64, .inl f)), ((b 3), .inl (kk 0, 64, .inl ft)), ((b 4), .inl (kk 0, 896, .inl dy)), ((b 5), .inl (kk 0, 128, .inl kp)), ((b 6), .inl (kk 2, 2, .inl ik)), ((b 7), .inl (kk 0, 6, .inl jb))] : va_W)) eS.symm) hP) (vD_eq (congrArg (fun z : Int32 × (Nat → Int32) => ([(h, .inr (8, moF b z.2)), ((b 1), .inl (kk 0, 120, .inl tx)), ((b 2), .inl (kk 0, 64, .inl f)), ((b 3), .inl (kk 0, 64, .inl ft)), ((b 4), .inl (kk 0, 896, .inl dy)), ((b 5), .inl (kk 0, 128, .inl kp)), ((b 6), .inl (kk 2, 2, .inl ik)), ((b 7), .inl (kk 0, 6, .inl jb))] : va_W)) eS.symm) hD) hS (congrArg (fun z : Int32 × (Nat → Int32) => z.1) eS) dX8_spare_49
  · have eS := eS.trans (if_neg c_39)
    refine lv_iconst (v := (-1)) hx hb dX8_spare_42 (by decide) ?_
    refine lv_goto (tgt := 49) hx hb dX8_spare_43 (by decide) ?_
    exact fin_i hx hb hr hlocks hK (vP_eq (congrArg (fun z : Int32 × (Nat → Int32) => ([(h, .inr (8, moF b z.2)), ((b 1), .inl (kk 0, 120, .inl tx)), ((b 2), .inl (kk 0, 64, .inl f)), ((b 3), .inl (kk 0, 64, .inl ft)), ((b 4), .inl (kk 0, 896, .inl dy)), ((b 5), .inl (kk 0, 128, .inl kp)), ((b 6), .inl (kk 2, 2, .inl ik)), ((b 7), .inl (kk 0, 6, .inl jb))] : va_W)) eS.symm) hP) (vD_eq (congrArg (fun z : Int32 × (Nat → Int32) => ([(h, .inr (8, moF b z.2)), ((b 1), .inl (kk 0, 120, .inl tx)), ((b 2), .inl (kk 0, 64, .inl f)), ((b 3), .inl (kk 0, 64, .inl ft)), ((b 4), .inl (kk 0, 896, .inl dy)), ((b 5), .inl (kk 0, 128, .inl kp)), ((b 6), .inl (kk 2, 2, .inl ik)), ((b 7), .inl (kk 0, 6, .inl jb))] : va_W)) eS.symm) hD) hS (congrArg (fun z : Int32 × (Nat → Int32) => z.1) eS) dX8_spare_49
