theorem rn_00 {q jb f : Nat → Int32} {m0 : Int32} {n : Nat} (h6 : n ≤ 6) : ∀ (d i : Nat) (q1 jb1 f1 : Nat → Int32), (lp_X8_runOn_7 q jb f m0 n d i q1 jb1 f1).2.2.2 0 = f1 0
  | 0, _, _, _, _ => rfl
  | d + 1, i, q1, jb1, f1 => by
    show (lp_X8_runOn_7 q jb f m0 n d (i + 1) (sX8_minuteOn q1 jb1 f1 n).1 (sX8_minuteOn q1 jb1 f1 n).2.1 (sX8_minuteOn q1 jb1 f1 n).2.2).2.2.2 0 = f1 0
    rw [rn_00 h6 d (i + 1), mn_0 h6]
theorem rn_0 {n : Nat} (h6 : n ≤ 6) (q jb f : Nat → Int32) (m0 : Int32) : (sX8_runOn q jb f m0 n).2.2.2 0 = f 0 := rn_00 h6 _ 0 q jb f
theorem do_00 {f : Nat → Int32} {n i0 : Nat} {o x : Int32} {z : Nat → Int32} : ∀ (d i : Nat) (t : Int32), (lp_X8_doorOn_20 f n i0 o x z d i t).2 = z
  | 0, _, _ => rfl
  | d + 1, i, t => do_00 d (i + 1) _
theorem do_2 (f : Nat → Int32) (n i0 : Nat) (o : Int32) : (sX8_doorOn f n i0 o).2 = sX8_lay f i0 4 (if o = 0 then 0 else 1) := do_00 n 0 0
theorem do_0 (f : Nat → Int32) (n i0 : Nat) (o : Int32) : (sX8_doorOn f n i0 o).2 0 = f 0 := by
  rw [do_2]; exact lay_0
theorem go_0 (f : Nat → Int32) (i : Nat) (v : Int32) : (sX8_goodsOn f i v).2 0 = f 0 := by
  show sX8_lay f i 3 v 0 = f 0
  exact lay_0
def lp_X8_warmIn_40 (q : Nat → Int32) (tx : Nat → Int32) (f : Nat → Int32) (ft : Nat → Int32) (dy : Nat → Int32) (kp : Nat → Int32) (ik : Nat → Int32) (jb : Nat → Int32) (n : Nat) (x : Int32) (z_1 : (Nat → Int32)) : Nat → Nat → (Nat → Int32) → (Nat → Int32) → (Nat → Int32) → Int32 × (Nat → Int32) × (Nat → Int32) × (Nat → Int32)
  | 0, i, q1, jb1, ft1 => ((-1), q1, ft1, jb1)
  | d + 1, i, q1, jb1, ft1 => (if (sX8_isWarm ft1 x.toNatClampNeg) = 0 then ((fun (z_2 : (Nat → Int32) × (Nat → Int32) × (Nat → Int32)) => (lp_X8_warmIn_40 q tx f ft dy kp ik jb n x z_1 d (i + 1) z_2.1 z_2.2.1 z_2.2.2)) (sX8_minuteOn q1 jb1 ft1 n)) else ((nI i), q1, ft1, jb1))
def sX8_warmIn_z_1 (q : Nat → Int32) (tx : Nat → Int32) (f : Nat → Int32) (ft : Nat → Int32) (dy : Nat → Int32) (kp : Nat → Int32) (ik : Nat → Int32) (jb : Nat → Int32) (n : Nat) (x : Int32) (z_1 : (Nat → Int32)) : Int32 × (Nat → Int32) × (Nat → Int32) × (Nat → Int32) :=
  (lp_X8_warmIn_40 q tx f ft dy kp ik jb n x z_1 241 0 (upd q 0 0) jb z_1)
def sX8_warmIn (q : Nat → Int32) (tx : Nat → Int32) (f : Nat → Int32) (ft : Nat → Int32) (dy : Nat → Int32) (kp : Nat → Int32) (ik : Nat → Int32) (jb : Nat → Int32) (n : Nat) (x : Int32) : Int32 × (Nat → Int32) × (Nat → Int32) × (Nat → Int32) :=
  (if (sX8_isRoom f x) = 0 then (0, (upd q 0 1), ft, jb) else (sX8_warmIn_z_1 q tx f ft dy kp ik jb n x (sX8_copyState 0 0 f ft)))
set_option maxRecDepth 100000 in
set_option maxHeartbeats 4000000 in
theorem c_X8_warmIn (l : Launch) (G : va_G) (kk : Nat → ClassId) (h : Nat) (b : Nat → Nat) (q : Nat → Int32) (tx : Nat → Int32) (f : Nat → Int32) (ft : Nat → Int32) (dy : Nat → Int32) (kp : Nat → Int32) (ik : Nat → Int32) (jb : Nat → Int32) (n : Nat) (x : Int32) (hn : f 0 = nI n) (h6 : n ≤ 6) : CC l yX8_warmIn cX8_warmIn 3 (some .int) (rmO 5 112) [.ref h, .int x] G kk ([(h, .inr (8, moF b q)), ((b 1), .inl (kk 0, 120, .inl tx)), ((b 2), .inl (kk 0, 64, .inl f)), ((b 3), .inl (kk 0, 64, .inl ft)), ((b 4), .inl (kk 0, 896, .inl dy)), ((b 5), .inl (kk 0, 128, .inl kp)), ((b 6), .inl (kk 2, 2, .inl ik)), ((b 7), .inl (kk 0, 6, .inl jb))]) (QI G kk ([(h, .inr (8, moF b ((sX8_warmIn q tx f ft dy kp ik jb n x).2.1))), ((b 1), .inl (kk 0, 120, .inl tx)), ((b 2), .inl (kk 0, 64, .inl f)), ((b 3), .inl (kk 0, 64, .inl ((sX8_warmIn q tx f ft dy kp ik jb n x).2.2.1))), ((b 4), .inl (kk 0, 896, .inl dy)), ((b 5), .inl (kk 0, 128, .inl kp)), ((b 6), .inl (kk 2, 2, .inl ik)), ((b 7), .inl (kk 0, 6, .inl ((sX8_warmIn q tx f ft dy kp ik jb n x).2.2.2)))]) ((sX8_warmIn q tx f ft dy kp ik jb n x).1)) := by
  refine cc_start (by decide +kernel) (Nat.le_of_ble_eq_true rfl) ?_
  intro p e s m below meth c A ls hx hb hr hml hown hts hlocks hA hE hK hP hD hS hl
  have hown : s.vm.findClass RX8 = some m.cls := hown
  have hl : lv_has ls 3 [(0, .ref h), (1, .int x)] := hl
  have eS : sX8_warmIn q tx f ft dy kp ik jb n x = sX8_warmIn q tx f ft dy kp ik jb n x := rfl
  refine lv_aload_n hx hb dX8_warmIn_0 rfl (lv_at hl 0 rfl) ?_
  refine lv_aload_n hx hb dX8_warmIn_1 rfl (lv_at hl 0 rfl) ?_
  refine r_get (v := .ref (b 2)) hx hb hts hown hK hP fl_X8_13 0 rfl rfl dX8_warmIn_2 ?_
  refine lv_iload_n hx hb dX8_warmIn_5 rfl (lv_at hl 1 rfl) ?_
  refine k_goI (k_runS (rest := [.ref h]) (As := [.ref (b 2), .int x]) hx hb hml hown hts hK hP hD hS hA hE hl.1 (c_X8_isRoom l G kk (b 2) f x ) sl_X8_158 ⟨Nat.le_of_ble_eq_true rfl, Nat.le_of_ble_eq_true rfl, rfl, rfl⟩ [2] rfl rfl ⟨Nat.zero_le _, Nat.zero_le _⟩ rfl (Nat.le_of_ble_eq_true rfl) dX8_warmIn_6) hP hD hS hA [2] rfl ads1 (fun H locs hP hD hS => ?_)
  replace hP : va_P G vwCl ([(h, .inr (8, moF b q)), ((b 1), .inl (kk 0, 120, .inl tx)), ((b 2), .inl (kk 0, 64, .inl f)), ((b 3), .inl (kk 0, 64, .inl ft)), ((b 4), .inl (kk 0, 896, .inl dy)), ((b 5), .inl (kk 0, 128, .inl kp)), ((b 6), .inl (kk 2, 2, .inl ik)), ((b 7), .inl (kk 0, 6, .inl jb))]) H := hP
  replace hD : va_D A ([(h, .inr (8, moF b q)), ((b 1), .inl (kk 0, 120, .inl tx)), ((b 2), .inl (kk 0, 64, .inl f)), ((b 3), .inl (kk 0, 64, .inl ft)), ((b 4), .inl (kk 0, 896, .inl dy)), ((b 5), .inl (kk 0, 128, .inl kp)), ((b 6), .inl (kk 2, 2, .inl ik)), ((b 7), .inl (kk 0, 6, .inl jb))]) := hD
  refine lv_if_eq (tgt := 16) hx hb dX8_warmIn_9 (by decide) (fun c_9 => ?_) (fun c_9 => ?_)
  · have eS := eS.trans (if_pos c_9)
    refine lv_iconst (v := 1) hx hb dX8_warmIn_16 (by decide) ?_
    refine k_goI (k_runV (rest := []) (As := [.int 1]) hx hb hml hown hts hK hP hD hS hA hE hl.1 (c_X8_refused9 l G kk h b q 1) vl_X8_119 rfl rfl rfl ⟨Nat.le_of_ble_eq_true rfl, Nat.le_of_ble_eq_true rfl, rfl, rfl⟩ [0] rfl rfl ⟨Nat.zero_le _, Nat.zero_le _⟩ rfl (Nat.le_of_ble_eq_true rfl) dX8_warmIn_17) hP hD hS hA [0] rfl ads1 (fun H locs hP hD hS => ?_)
    replace hP : va_P G vwCl ([(h, .inr (8, moF b (upd q 0 1))), ((b 1), .inl (kk 0, 120, .inl tx)), ((b 2), .inl (kk 0, 64, .inl f)), ((b 3), .inl (kk 0, 64, .inl ft)), ((b 4), .inl (kk 0, 896, .inl dy)), ((b 5), .inl (kk 0, 128, .inl kp)), ((b 6), .inl (kk 2, 2, .inl ik)), ((b 7), .inl (kk 0, 6, .inl jb))]) H := hP
    replace hD : va_D A ([(h, .inr (8, moF b (upd q 0 1))), ((b 1), .inl (kk 0, 120, .inl tx)), ((b 2), .inl (kk 0, 64, .inl f)), ((b 3), .inl (kk 0, 64, .inl ft)), ((b 4), .inl (kk 0, 896, .inl dy)), ((b 5), .inl (kk 0, 128, .inl kp)), ((b 6), .inl (kk 2, 2, .inl ik)), ((b 7), .inl (kk 0, 6, .inl jb))]) := hD
    refine top_eq (y := 1) (by decide) ?_
    refine lv_if_eq (tgt := 25) hx hb dX8_warmIn_20 (by decide) (fun c_20 => absurd c_20 (by decide)) (fun c_20 => ?_)
    refine lv_iconst (v := 0) hx hb dX8_warmIn_23 (by decide) ?_
    exact fin_i hx hb hr hlocks hK (vP_eq (congrArg (fun z : Int32 × (Nat → Int32) × (Nat → Int32) × (Nat → Int32) => ([(h, .inr (8, moF b z.2.1)), ((b 1), .inl (kk 0, 120, .inl tx)), ((b 2), .inl (kk 0, 64, .inl f)), ((b 3), .inl (kk 0, 64, .inl z.2.2.1)), ((b 4), .inl (kk 0, 896, .inl dy)), ((b 5), .inl (kk 0, 128, .inl kp)), ((b 6), .inl (kk 2, 2, .inl ik)), ((b 7), .inl (kk 0, 6, .inl z.2.2.2))] : va_W)) eS.symm) hP) (vD_eq (congrArg (fun z : Int32 × (Nat → Int32) × (Nat → Int32) × (Nat → Int32) => ([(h, .inr (8, moF b z.2.1)), ((b 1), .inl (kk 0, 120, .inl tx)), ((b 2), .inl (kk 0, 64, .inl f)), ((b 3), .inl (kk 0, 64, .inl z.2.2.1)), ((b 4), .inl (kk 0, 896, .inl dy)), ((b 5), .inl (kk 0, 128, .inl kp)), ((b 6), .inl (kk 2, 2, .inl ik)), ((b 7), .inl (kk 0, 6, .inl z.2.2.2))] : va_W)) eS.symm) hD) hS (congrArg (fun z : Int32 × (Nat → Int32) × (Nat → Int32) × (Nat → Int32) => z.1) eS) dX8_warmIn_24
  · have eS := eS.trans (if_neg c_9)
    refine lv_iconst (v := 0) hx hb dX8_warmIn_12 (by decide) ?_
    refine lv_goto (tgt := 17) hx hb dX8_warmIn_13 (by decide) ?_
    refine k_goI (k_runV (rest := []) (As := [.int 0]) hx hb hml hown hts hK hP hD hS hA hE hl.1 (c_X8_refused9 l G kk h b q 0) vl_X8_119 rfl rfl rfl ⟨Nat.le_of_ble_eq_true rfl, Nat.le_of_ble_eq_true rfl, rfl, rfl⟩ [0] rfl rfl ⟨Nat.zero_le _, Nat.zero_le _⟩ rfl (Nat.le_of_ble_eq_true rfl) dX8_warmIn_17) hP hD hS hA [0] rfl ads1 (fun H locs hP hD hS => ?_)
    replace hP : va_P G vwCl ([(h, .inr (8, moF b (upd q 0 0))), ((b 1), .inl (kk 0, 120, .inl tx)), ((b 2), .inl (kk 0, 64, .inl f)), ((b 3), .inl (kk 0, 64, .inl ft)), ((b 4), .inl (kk 0, 896, .inl dy)), ((b 5), .inl (kk 0, 128, .inl kp)), ((b 6), .inl (kk 2, 2, .inl ik)), ((b 7), .inl (kk 0, 6, .inl jb))]) H := hP
    replace hD : va_D A ([(h, .inr (8, moF b (upd q 0 0))), ((b 1), .inl (kk 0, 120, .inl tx)), ((b 2), .inl (kk 0, 64, .inl f)), ((b 3), .inl (kk 0, 64, .inl ft)), ((b 4), .inl (kk 0, 896, .inl dy)), ((b 5), .inl (kk 0, 128, .inl kp)), ((b 6), .inl (kk 2, 2, .inl ik)), ((b 7), .inl (kk 0, 6, .inl jb))]) := hD
    refine top_eq (y := 0) (by decide) ?_
    refine lv_if_eq (tgt := 25) hx hb dX8_warmIn_20 (by decide) (fun c_20 => ?_) (fun c_20 => absurd (by decide) c_20)
    obtain ⟨hx1, hx2⟩ := isRoom_in hn h6 c_9
    refine lv_aload_n hx hb dX8_warmIn_25 rfl (lv_at hl 0 rfl) ?_
    refine r_get (v := .ref (b 2)) hx hb hts hown hK hP fl_X8_13 0 rfl rfl dX8_warmIn_26 ?_
    refine lv_iconst (v := 0) hx hb dX8_warmIn_29 (by decide) ?_
    refine lv_aload_n hx hb dX8_warmIn_30 rfl (lv_at hl 0 rfl) ?_
    refine r_get (v := .ref (b 3)) hx hb hts hown hK hP fl_X8_16 0 rfl rfl dX8_warmIn_31 ?_
    refine lv_iconst (v := 0) hx hb dX8_warmIn_34 (by decide) ?_
    refine k_goV (k_runS (rest := []) (As := [.ref (b 2), .int 0, .ref (b 3), .int 0]) hx hb hml hown hts hK hP hD hS hA hE hl.1 (c_X8_copyState l G kk (b 2) 0 (b 3) 0 64 64 f ft (by omega) (by omega) (by omega) (by omega)) sl_X8_175 ⟨Nat.le_of_ble_eq_true rfl, Nat.le_of_ble_eq_true rfl, rfl, rfl⟩ [2, 3] rfl rfl ⟨Nat.zero_le _, Nat.zero_le _⟩ rfl (Nat.le_of_ble_eq_true rfl) dX8_warmIn_35) hP hD hS hA [2, 3] rfl ads2 (fun H locs hP hD hS => ?_)
    replace hP : va_P G vwCl ([(h, .inr (8, moF b (upd q 0 0))), ((b 1), .inl (kk 0, 120, .inl tx)), ((b 2), .inl (kk 0, 64, .inl f)), ((b 3), .inl (kk 0, 64, .inl (sX8_copyState 0 0 f ft))), ((b 4), .inl (kk 0, 896, .inl dy)), ((b 5), .inl (kk 0, 128, .inl kp)), ((b 6), .inl (kk 2, 2, .inl ik)), ((b 7), .inl (kk 0, 6, .inl jb))]) H := hP
    replace hD : va_D A ([(h, .inr (8, moF b (upd q 0 0))), ((b 1), .inl (kk 0, 120, .inl tx)), ((b 2), .inl (kk 0, 64, .inl f)), ((b 3), .inl (kk 0, 64, .inl (sX8_copyState 0 0 f ft))), ((b 4), .inl (kk 0, 896, .inl dy)), ((b 5), .inl (kk 0, 128, .inl kp)), ((b 6), .inl (kk 2, 2, .inl ik)), ((b 7), .inl (kk 0, 6, .inl jb))]) := hD
    have eS : sX8_warmIn q tx f ft dy kp ik jb n x = sX8_warmIn_z_1 q tx f ft dy kp ik jb n x (sX8_copyState 0 0 f ft) := eS
    have hz_1 := (cs_0 f ft)
    generalize sX8_copyState 0 0 f ft = z_1 at hP hD eS hz_1 ⊢
    have hf0 : z_1 0 = nI n := hz_1.trans hn
    refine lv_iconst (v := 0) hx hb dX8_warmIn_38 (by decide) ?_
    refine lv_istore_n (lv' := [(2, .int 0), (0, .ref h), (1, .int x)]) hx hb dX8_warmIn_39 rfl hl (by decide) rfl (fun ls hl => ?_)
    have L_3 : ∀ (d : Nat) (i : Nat) (q1 : Nat → Int32) (jb1 : Nat → Int32) (ft1 : Nat → Int32) (hd : i + d = 241) (hf : ft1 0 = nI n) (eS : sX8_warmIn q tx f ft dy kp ik jb n x = lp_X8_warmIn_40 q tx f ft dy kp ik jb n x z_1 d i q1 jb1 ft1) (H : Heap) (locs : List Loc) (ls : Array Slot) (hP : va_P G vwCl ([(h, .inr (8, moF b q1)), ((b 1), .inl (kk 0, 120, .inl tx)), ((b 2), .inl (kk 0, 64, .inl f)), ((b 3), .inl (kk 0, 64, .inl ft1)), ((b 4), .inl (kk 0, 896, .inl dy)), ((b 5), .inl (kk 0, 128, .inl kp)), ((b 6), .inl (kk 2, 2, .inl ik)), ((b 7), .inl (kk 0, 6, .inl jb1))]) H) (hD : va_D A ([(h, .inr (8, moF b q1)), ((b 1), .inl (kk 0, 120, .inl tx)), ((b 2), .inl (kk 0, 64, .inl f)), ((b 3), .inl (kk 0, 64, .inl ft1)), ((b 4), .inl (kk 0, 896, .inl dy)), ((b 5), .inl (kk 0, 128, .inl kp)), ((b 6), .inl (kk 2, 2, .inl ik)), ((b 7), .inl (kk 0, 6, .inl jb1))])) (hS : va_S A s.heap H locs) (hl : lv_has ls 3 [(0, .ref h), (1, .int x), (2, .int (nI i))]), GO p l e (rmO 5 112) s m ([.ref h, .int x] : List Value).toArray below meth c A (QI G kk ([(h, .inr (8, moF b ((sX8_warmIn q tx f ft dy kp ik jb n x).2.1))), ((b 1), .inl (kk 0, 120, .inl tx)), ((b 2), .inl (kk 0, 64, .inl f)), ((b 3), .inl (kk 0, 64, .inl ((sX8_warmIn q tx f ft dy kp ik jb n x).2.2.1))), ((b 4), .inl (kk 0, 896, .inl dy)), ((b 5), .inl (kk 0, 128, .inl kp)), ((b 6), .inl (kk 2, 2, .inl ik)), ((b 7), .inl (kk 0, 6, .inl ((sX8_warmIn q tx f ft dy kp ik jb n x).2.2.2)))]) ((sX8_warmIn q tx f ft dy kp ik jb n x).1)) H locs (F0 m 40 ls []) := by
      intro d
      induction d with
      | zero =>
        intro i q1 jb1 ft1 hd hf eS H locs ls hP hD hS hl
        refine lv_iload_n hx hb dX8_warmIn_40 rfl (lv_at hl 2 rfl) ?_
        refine lv_sipush (v := 240) hx hb dX8_warmIn_41 (by decide) ?_
        refine lv_icmp_gt (tgt := 74) hx hb dX8_warmIn_44 (by decide) (fun c_44 => ?_) (fun c_44 => absurd (nI_lt (a := 240) (b := i) (by omega) (by omega)) c_44)
        refine lv_iconst (v := (-1)) hx hb dX8_warmIn_74 (by decide) ?_
        exact fin_i hx hb hr hlocks hK (vP_eq (congrArg (fun z : Int32 × (Nat → Int32) × (Nat → Int32) × (Nat → Int32) => ([(h, .inr (8, moF b z.2.1)), ((b 1), .inl (kk 0, 120, .inl tx)), ((b 2), .inl (kk 0, 64, .inl f)), ((b 3), .inl (kk 0, 64, .inl z.2.2.1)), ((b 4), .inl (kk 0, 896, .inl dy)), ((b 5), .inl (kk 0, 128, .inl kp)), ((b 6), .inl (kk 2, 2, .inl ik)), ((b 7), .inl (kk 0, 6, .inl z.2.2.2))] : va_W)) eS.symm) hP) (vD_eq (congrArg (fun z : Int32 × (Nat → Int32) × (Nat → Int32) × (Nat → Int32) => ([(h, .inr (8, moF b z.2.1)), ((b 1), .inl (kk 0, 120, .inl tx)), ((b 2), .inl (kk 0, 64, .inl f)), ((b 3), .inl (kk 0, 64, .inl z.2.2.1)), ((b 4), .inl (kk 0, 896, .inl dy)), ((b 5), .inl (kk 0, 128, .inl kp)), ((b 6), .inl (kk 2, 2, .inl ik)), ((b 7), .inl (kk 0, 6, .inl z.2.2.2))] : va_W)) eS.symm) hD) hS (congrArg (fun z : Int32 × (Nat → Int32) × (Nat → Int32) × (Nat → Int32) => z.1) eS) dX8_warmIn_75
      | succ d ih =>
        intro i q1 jb1 ft1 hd hf eS H locs ls hP hD hS hl
        refine lv_iload_n hx hb dX8_warmIn_40 rfl (lv_at hl 2 rfl) ?_
        refine lv_sipush (v := 240) hx hb dX8_warmIn_41 (by decide) ?_
        refine lv_icmp_gt (tgt := 74) hx hb dX8_warmIn_44 (by decide) (fun c_44 => absurd c_44 ((fun q => absurd ((nI_ltI (a := 240) (b := i) (by omega) (by omega)).mp q) (by omega)))) (fun c_44 => ?_)
        refine lv_aload_n hx hb dX8_warmIn_47 rfl (lv_at hl 0 rfl) ?_
        refine r_get (v := .ref (b 3)) hx hb hts hown hK hP fl_X8_16 0 rfl rfl dX8_warmIn_48 ?_
        refine lv_iload_n hx hb dX8_warmIn_51 rfl (lv_at hl 1 rfl) ?_
        refine top_eq (y := (nI x.toNatClampNeg)) (hx1) ?_
        refine k_goI (k_runS (rest := []) (As := [.ref (b 3), .int (nI x.toNatClampNeg)]) hx hb hml hown hts hK hP hD hS hA hE hl.1 (c_X8_isWarm l G kk (b 3) ft1 x.toNatClampNeg (by omega)) sl_X8_55 ⟨Nat.le_of_ble_eq_true rfl, Nat.le_of_ble_eq_true rfl, rfl, rfl⟩ [3] rfl rfl ⟨Nat.zero_le _, Nat.zero_le _⟩ rfl (Nat.le_of_ble_eq_true rfl) dX8_warmIn_52) hP hD hS hA [3] rfl ads1 (fun H locs hP hD hS => ?_)
        replace hP : va_P G vwCl ([(h, .inr (8, moF b q1)), ((b 1), .inl (kk 0, 120, .inl tx)), ((b 2), .inl (kk 0, 64, .inl f)), ((b 3), .inl (kk 0, 64, .inl ft1)), ((b 4), .inl (kk 0, 896, .inl dy)), ((b 5), .inl (kk 0, 128, .inl kp)), ((b 6), .inl (kk 2, 2, .inl ik)), ((b 7), .inl (kk 0, 6, .inl jb1))]) H := hP
        replace hD : va_D A ([(h, .inr (8, moF b q1)), ((b 1), .inl (kk 0, 120, .inl tx)), ((b 2), .inl (kk 0, 64, .inl f)), ((b 3), .inl (kk 0, 64, .inl ft1)), ((b 4), .inl (kk 0, 896, .inl dy)), ((b 5), .inl (kk 0, 128, .inl kp)), ((b 6), .inl (kk 2, 2, .inl ik)), ((b 7), .inl (kk 0, 6, .inl jb1))]) := hD
        refine lv_if_eq (tgt := 60) hx hb dX8_warmIn_55 (by decide) (fun c_55 => ?_) (fun c_55 => ?_)
        · have eS := eS.trans (if_pos c_55)
          refine lv_aload_n hx hb dX8_warmIn_60 rfl (lv_at hl 0 rfl) ?_
          refine lv_aload_n hx hb dX8_warmIn_61 rfl (lv_at hl 0 rfl) ?_
          refine r_get (v := .ref (b 3)) hx hb hts hown hK hP fl_X8_16 0 rfl rfl dX8_warmIn_62 ?_
          refine k_goV (k_runV (rest := []) (As := [.ref (b 3)]) hx hb hml hown hts hK hP hD hS hA hE hl.1 (c_X8_minuteOn l G kk h b q1 jb1 (b 3) ft1 n hf h6) vl_X8_93 rfl rfl rfl ⟨Nat.le_of_ble_eq_true rfl, Nat.le_of_ble_eq_true rfl, rfl, rfl⟩ [0, 7, 3] rfl rfl ⟨Nat.zero_le _, Nat.zero_le _⟩ rfl (Nat.le_of_ble_eq_true rfl) dX8_warmIn_65) hP hD hS hA [0, 7, 3] rfl ads3 (fun H locs hP hD hS => ?_)
          replace hP : va_P G vwCl ([(h, .inr (8, moF b ((sX8_minuteOn q1 jb1 ft1 n).1))), ((b 1), .inl (kk 0, 120, .inl tx)), ((b 2), .inl (kk 0, 64, .inl f)), ((b 3), .inl (kk 0, 64, .inl ((sX8_minuteOn q1 jb1 ft1 n).2.2))), ((b 4), .inl (kk 0, 896, .inl dy)), ((b 5), .inl (kk 0, 128, .inl kp)), ((b 6), .inl (kk 2, 2, .inl ik)), ((b 7), .inl (kk 0, 6, .inl ((sX8_minuteOn q1 jb1 ft1 n).2.1)))]) H := hP
          replace hD : va_D A ([(h, .inr (8, moF b ((sX8_minuteOn q1 jb1 ft1 n).1))), ((b 1), .inl (kk 0, 120, .inl tx)), ((b 2), .inl (kk 0, 64, .inl f)), ((b 3), .inl (kk 0, 64, .inl ((sX8_minuteOn q1 jb1 ft1 n).2.2))), ((b 4), .inl (kk 0, 896, .inl dy)), ((b 5), .inl (kk 0, 128, .inl kp)), ((b 6), .inl (kk 2, 2, .inl ik)), ((b 7), .inl (kk 0, 6, .inl ((sX8_minuteOn q1 jb1 ft1 n).2.1)))]) := hD
          have eS : sX8_warmIn q tx f ft dy kp ik jb n x = (fun (z_2 : (Nat → Int32) × (Nat → Int32) × (Nat → Int32)) => (lp_X8_warmIn_40 q tx f ft dy kp ik jb n x z_1 d (i + 1) z_2.1 z_2.2.1 z_2.2.2)) (sX8_minuteOn q1 jb1 ft1 n) := eS
          have hz_2 := mn_0 h6 q1 jb1 ft1
          generalize sX8_minuteOn q1 jb1 ft1 n = z_2 at hP hD eS hz_2 ⊢
          refine lv_iinc (v := (nI (i + 1))) (lv' := [(2, .int (nI (i + 1))), (0, .ref h), (1, .int x)]) hx hb dX8_warmIn_68 hl (k := 2) rfl (nI_add i 1) (by decide) rfl (fun ls hl => ?_)
          refine lv_goto (tgt := 40) hx hb dX8_warmIn_71 (by decide) ?_
          exact ih (i + 1) z_2.1 z_2.2.1 z_2.2.2 (by omega) (hz_2.trans hf) eS _ _ ls hP hD hS (lv_sub hl [1, 2, 0] rfl)
        · have eS := eS.trans (if_neg c_55)
          refine lv_iload_n hx hb dX8_warmIn_58 rfl (lv_at hl 2 rfl) ?_
          exact fin_i hx hb hr hlocks hK (vP_eq (congrArg (fun z : Int32 × (Nat → Int32) × (Nat → Int32) × (Nat → Int32) => ([(h, .inr (8, moF b z.2.1)), ((b 1), .inl (kk 0, 120, .inl tx)), ((b 2), .inl (kk 0, 64, .inl f)), ((b 3), .inl (kk 0, 64, .inl z.2.2.1)), ((b 4), .inl (kk 0, 896, .inl dy)), ((b 5), .inl (kk 0, 128, .inl kp)), ((b 6), .inl (kk 2, 2, .inl ik)), ((b 7), .inl (kk 0, 6, .inl z.2.2.2))] : va_W)) eS.symm) hP) (vD_eq (congrArg (fun z : Int32 × (Nat → Int32) × (Nat → Int32) × (Nat → Int32) => ([(h, .inr (8, moF b z.2.1)), ((b 1), .inl (kk 0, 120, .inl tx)), ((b 2), .inl (kk 0, 64, .inl f)), ((b 3), .inl (kk 0, 64, .inl z.2.2.1)), ((b 4), .inl (kk 0, 896, .inl dy)), ((b 5), .inl (kk 0, 128, .inl kp)), ((b 6), .inl (kk 2, 2, .inl ik)), ((b 7), .inl (kk 0, 6, .inl z.2.2.2))] : va_W)) eS.symm) hD) hS (congrArg (fun z : Int32 × (Nat → Int32) × (Nat → Int32) × (Nat → Int32) => z.1) eS) dX8_warmIn_59
    exact L_3 241 0 (upd q 0 0) jb z_1 (Nat.zero_add _) hf0 eS _ _ ls hP hD hS (lv_sub hl [1, 2, 0] rfl)
def lp_X8_warmest_4 (f : Nat → Int32) (n : Nat) : Nat → Nat → Option Nat → Option Nat
  | 0, i, w => w
  | d + 1, i, w => (oe w (lp_X8_warmest_4 f n d (i + 1) (some i)) (fun k_1 => (if ((((sX8_of f i 3) - (sX8_of f i 2)) - (sX8_of f k_1 3)) + (sX8_of f k_1 2)) ≤ 0 then (lp_X8_warmest_4 f n d (i + 1) (some k_1)) else (lp_X8_warmest_4 f n d (i + 1) (some i)))))
def sX8_warmest (f : Nat → Int32) (n : Nat) : Option Nat :=
  (lp_X8_warmest_4 f n n 0 none)
set_option maxRecDepth 100000 in
set_option maxHeartbeats 4000000 in
theorem c_X8_warmest (l : Launch) (G : va_G) (kk : Nat → ClassId) (ra : Nat) (f : Nat → Int32) (n : Nat) (hn : f 0 = nI n) (h6 : n ≤ 6) : CC l yX8_warmest cX8_warmest 4 (some .int) (rmO 1 22) [.ref ra] G kk ([(ra, .inl (kk 0, 64, .inl f))]) (QI G kk ([(ra, .inl (kk 0, 64, .inl f))]) (ob (sX8_warmest f n))) := by
  refine cc_start (by decide +kernel) (Nat.le_of_ble_eq_true rfl) ?_
  intro p e s m below meth c A ls hx hb hr hml hown hts hlocks hA hE hK hP hD hS hl
  have hown : s.vm.findClass RX8 = some m.cls := hown
  have hl : lv_has ls 4 [(0, .ref ra)] := hl
  have eS : sX8_warmest f n = sX8_warmest f n := rfl
  refine lv_iconst (v := (-1)) hx hb dX8_warmest_0 (by decide) ?_
  refine lv_istore_n (lv' := [(1, .int (-1)), (0, .ref ra)]) hx hb dX8_warmest_1 rfl hl (by decide) rfl (fun ls hl => ?_)
  refine lv_iconst (v := 0) hx hb dX8_warmest_2 (by decide) ?_
  refine lv_istore_n (lv' := [(2, .int 0), (1, .int (-1)), (0, .ref ra)]) hx hb dX8_warmest_3 rfl hl (by decide) rfl (fun ls hl => ?_)
  have L_2 : ∀ (d : Nat) (i : Nat) (w : Option Nat) (hd : i + d = n) (hw : ∀ k, w = some k → k < n) (eS : sX8_warmest f n = lp_X8_warmest_4 f n d i w) (H : Heap) (locs : List Loc) (ls : Array Slot) (hP : va_P G vwCl ([(ra, .inl (kk 0, 64, .inl f))]) H) (hD : va_D A ([(ra, .inl (kk 0, 64, .inl f))])) (hS : va_S A s.heap H locs) (hl : lv_has ls 4 [(0, .ref ra), (2, .int (nI i)), (1, .int (ob w))]), GO p l e (rmO 1 22) s m ([.ref ra] : List Value).toArray below meth c A (QI G kk ([(ra, .inl (kk 0, 64, .inl f))]) (ob (sX8_warmest f n))) H locs (F0 m 4 ls []) := by
    intro d
    induction d with
    | zero =>
      intro i w hd hw eS H locs ls hP hD hS hl
      refine lv_iload_n hx hb dX8_warmest_4 rfl (lv_at hl 1 rfl) ?_
      refine lv_aload_n hx hb dX8_warmest_5 rfl (lv_at hl 0 rfl) ?_
      refine lv_iconst (v := 0) hx hb dX8_warmest_6 (by decide) ?_
      refine r_iald hx hb hK hP 0 rfl 0 rfl (by decide) (by decide) dX8_warmest_7 ?_
      refine lv_icmp_ge (tgt := 64) hx hb dX8_warmest_8 (by decide) (fun c_8 => ?_) (fun c_8 => absurd (fle hn (by omega) (by omega)) c_8)
      refine lv_iload_n hx hb dX8_warmest_64 rfl (lv_at hl 2 rfl) ?_
      exact fin_i (v := (ob w)) hx hb hr hlocks hK hP hD hS (congrArg (fun z : Option Nat => (ob z)) eS) dX8_warmest_65
    | succ d ih =>
      intro i w hd hw eS H locs ls hP hD hS hl
      refine lv_iload_n hx hb dX8_warmest_4 rfl (lv_at hl 1 rfl) ?_
      refine lv_aload_n hx hb dX8_warmest_5 rfl (lv_at hl 0 rfl) ?_
      refine lv_iconst (v := 0) hx hb dX8_warmest_6 (by decide) ?_
      refine r_iald hx hb hK hP 0 rfl 0 rfl (by decide) (by decide) dX8_warmest_7 ?_
      refine lv_icmp_ge (tgt := 64) hx hb dX8_warmest_8 (by decide) (fun c_8 => absurd c_8 (fgt hn (by omega) (by omega))) (fun c_8 => ?_)
      rcases opt_or w with rfl | ⟨k_1, rfl⟩
      · have hl : lv_has ls 4 [(0, .ref ra), (2, .int (nI i)), (1, .int (-1))] := hl
        have eS := eS.trans (oe_n rfl)
        refine lv_iload_n hx hb dX8_warmest_11 rfl (lv_at hl 2 rfl) ?_
        refine lv_iconst (v := (-1)) hx hb dX8_warmest_12 (by decide) ?_
        refine lv_icmp_ne (tgt := 20) hx hb dX8_warmest_13 (by decide) (fun c_13 => absurd (by decide) c_13) (fun c_13 => ?_)
        refine lv_iconst (v := 1) hx hb dX8_warmest_16 (by decide) ?_
        refine lv_goto (tgt := 47) hx hb dX8_warmest_17 (by decide) ?_
        refine lv_istore_n (lv' := [(3, .int 1), (0, .ref ra), (2, .int (nI i)), (1, .int (-1))]) hx hb dX8_warmest_47 rfl hl (by decide) rfl (fun ls hl => ?_)
        refine lv_iload_n hx hb dX8_warmest_48 rfl (lv_at hl 0 rfl) ?_
        refine lv_if_le (tgt := 56) hx hb dX8_warmest_49 (by decide) (fun c_49 => absurd c_49 (by decide)) (fun c_49 => ?_)
        refine lv_iload_n hx hb dX8_warmest_52 rfl (lv_at hl 2 rfl) ?_
        refine lv_goto (tgt := 57) hx hb dX8_warmest_53 (by decide) ?_
        refine lv_istore_n (lv' := [(1, .int (nI i)), (3, .int 1), (0, .ref ra), (2, .int (nI i))]) hx hb dX8_warmest_57 rfl hl (by decide) rfl (fun ls hl => ?_)
        refine lv_iinc (v := (nI (i + 1))) (lv' := [(2, .int (nI (i + 1))), (1, .int (nI i)), (3, .int 1), (0, .ref ra)]) hx hb dX8_warmest_58 hl (k := 3) rfl (nI_add i 1) (by decide) rfl (fun ls hl => ?_)
        refine lv_goto (tgt := 4) hx hb dX8_warmest_61 (by decide) ?_
        exact ih (i + 1) (some i) (by omega) (by first | exact hw | (intro k h; cases h; omega)) eS _ _ ls hP hD hS (lv_sub hl [3, 0, 1] rfl)
      · have hl : lv_has ls 4 [(0, .ref ra), (2, .int (nI i)), (1, .int (nI k_1))] := hl
        have hk_1 := hw k_1 rfl
        have eS := eS.trans (oe_s rfl)
        refine lv_iload_n hx hb dX8_warmest_11 rfl (lv_at hl 2 rfl) ?_
        refine lv_iconst (v := (-1)) hx hb dX8_warmest_12 (by decide) ?_
        refine lv_icmp_ne (tgt := 20) hx hb dX8_warmest_13 (by decide) (fun c_13 => ?_) (fun c_13 => absurd c_13 (nI_nm1 (by omega)))
        refine lv_aload_n hx hb dX8_warmest_20 rfl (lv_at hl 0 rfl) ?_
        refine lv_iload_n hx hb dX8_warmest_21 rfl (lv_at hl 1 rfl) ?_
        refine lv_iconst (v := 3) hx hb dX8_warmest_22 (by decide) ?_
        refine k_goI (k_runS (rest := []) (As := [.ref ra, .int (nI i), .int 3]) hx hb hml hown hts hK hP hD hS hA hE hl.1 (c_X8_of l G kk ra f i 3 (by omega)) sl_X8_44 ⟨Nat.le_of_ble_eq_true rfl, Nat.le_of_ble_eq_true rfl, rfl, rfl⟩ [0] rfl rfl ⟨Nat.zero_le _, Nat.zero_le _⟩ rfl (Nat.le_of_ble_eq_true rfl) dX8_warmest_23) hP hD hS hA [0] rfl ads1 (fun H locs hP hD hS => ?_)
        replace hP : va_P G vwCl ([(ra, .inl (kk 0, 64, .inl f))]) H := hP
        replace hD : va_D A ([(ra, .inl (kk 0, 64, .inl f))]) := hD
        refine lv_aload_n hx hb dX8_warmest_26 rfl (lv_at hl 0 rfl) ?_
        refine lv_iload_n hx hb dX8_warmest_27 rfl (lv_at hl 1 rfl) ?_
        refine lv_iconst (v := 2) hx hb dX8_warmest_28 (by decide) ?_
        refine k_goI (k_runS (rest := [.int (sX8_of f i 3)]) (As := [.ref ra, .int (nI i), .int 2]) hx hb hml hown hts hK hP hD hS hA hE hl.1 (c_X8_of l G kk ra f i 2 (by omega)) sl_X8_44 ⟨Nat.le_of_ble_eq_true rfl, Nat.le_of_ble_eq_true rfl, rfl, rfl⟩ [0] rfl rfl ⟨Nat.zero_le _, Nat.zero_le _⟩ rfl (Nat.le_of_ble_eq_true rfl) dX8_warmest_29) hP hD hS hA [0] rfl ads1 (fun H locs hP hD hS => ?_)
        replace hP : va_P G vwCl ([(ra, .inl (kk 0, 64, .inl f))]) H := hP
        replace hD : va_D A ([(ra, .inl (kk 0, 64, .inl f))]) := hD
        refine lv_isub hx hb dX8_warmest_32 ?_
        refine lv_aload_n hx hb dX8_warmest_33 rfl (lv_at hl 0 rfl) ?_
        refine lv_iload_n hx hb dX8_warmest_34 rfl (lv_at hl 2 rfl) ?_
        refine lv_iconst (v := 3) hx hb dX8_warmest_35 (by decide) ?_
        refine k_goI (k_runS (rest := [.int ((sX8_of f i 3) - (sX8_of f i 2))]) (As := [.ref ra, .int (nI k_1), .int 3]) hx hb hml hown hts hK hP hD hS hA hE hl.1 (c_X8_of l G kk ra f k_1 3 (by omega)) sl_X8_44 ⟨Nat.le_of_ble_eq_true rfl, Nat.le_of_ble_eq_true rfl, rfl, rfl⟩ [0] rfl rfl ⟨Nat.zero_le _, Nat.zero_le _⟩ rfl (Nat.le_of_ble_eq_true rfl) dX8_warmest_36) hP hD hS hA [0] rfl ads1 (fun H locs hP hD hS => ?_)
        replace hP : va_P G vwCl ([(ra, .inl (kk 0, 64, .inl f))]) H := hP
        replace hD : va_D A ([(ra, .inl (kk 0, 64, .inl f))]) := hD
        refine lv_isub hx hb dX8_warmest_39 ?_
        refine lv_aload_n hx hb dX8_warmest_40 rfl (lv_at hl 0 rfl) ?_
        refine lv_iload_n hx hb dX8_warmest_41 rfl (lv_at hl 2 rfl) ?_
        refine lv_iconst (v := 2) hx hb dX8_warmest_42 (by decide) ?_
        refine k_goI (k_runS (rest := [.int (((sX8_of f i 3) - (sX8_of f i 2)) - (sX8_of f k_1 3))]) (As := [.ref ra, .int (nI k_1), .int 2]) hx hb hml hown hts hK hP hD hS hA hE hl.1 (c_X8_of l G kk ra f k_1 2 (by omega)) sl_X8_44 ⟨Nat.le_of_ble_eq_true rfl, Nat.le_of_ble_eq_true rfl, rfl, rfl⟩ [0] rfl rfl ⟨Nat.zero_le _, Nat.zero_le _⟩ rfl (Nat.le_of_ble_eq_true rfl) dX8_warmest_43) hP hD hS hA [0] rfl ads1 (fun H locs hP hD hS => ?_)
        replace hP : va_P G vwCl ([(ra, .inl (kk 0, 64, .inl f))]) H := hP
        replace hD : va_D A ([(ra, .inl (kk 0, 64, .inl f))]) := hD
        refine lv_iadd hx hb dX8_warmest_46 ?_
        refine lv_istore_n (lv' := [(3, .int ((((sX8_of f i 3) - (sX8_of f i 2)) - (sX8_of f k_1 3)) + (sX8_of f k_1 2))), (0, .ref ra), (2, .int (nI i)), (1, .int (nI k_1))]) hx hb dX8_warmest_47 rfl hl (by decide) rfl (fun ls hl => ?_)
        refine lv_iload_n hx hb dX8_warmest_48 rfl (lv_at hl 0 rfl) ?_
        refine lv_if_le (tgt := 56) hx hb dX8_warmest_49 (by decide) (fun c_49 => ?_) (fun c_49 => ?_)
        · have eS := eS.trans (if_pos c_49)
          refine lv_iload_n hx hb dX8_warmest_56 rfl (lv_at hl 3 rfl) ?_
          refine lv_istore_n (lv' := [(1, .int (nI k_1)), (3, .int ((((sX8_of f i 3) - (sX8_of f i 2)) - (sX8_of f k_1 3)) + (sX8_of f k_1 2))), (0, .ref ra), (2, .int (nI i))]) hx hb dX8_warmest_57 rfl hl (by decide) rfl (fun ls hl => ?_)
          refine lv_iinc (v := (nI (i + 1))) (lv' := [(2, .int (nI (i + 1))), (1, .int (nI k_1)), (3, .int ((((sX8_of f i 3) - (sX8_of f i 2)) - (sX8_of f k_1 3)) + (sX8_of f k_1 2))), (0, .ref ra)]) hx hb dX8_warmest_58 hl (k := 3) rfl (nI_add i 1) (by decide) rfl (fun ls hl => ?_)
          refine lv_goto (tgt := 4) hx hb dX8_warmest_61 (by decide) ?_
          exact ih (i + 1) (some k_1) (by omega) (by first | exact hw | (intro k h; cases h; omega)) eS _ _ ls hP hD hS (lv_sub hl [3, 0, 1] rfl)
        · have eS := eS.trans (if_neg c_49)
          refine lv_iload_n hx hb dX8_warmest_52 rfl (lv_at hl 2 rfl) ?_
          refine lv_goto (tgt := 57) hx hb dX8_warmest_53 (by decide) ?_
          refine lv_istore_n (lv' := [(1, .int (nI i)), (3, .int ((((sX8_of f i 3) - (sX8_of f i 2)) - (sX8_of f k_1 3)) + (sX8_of f k_1 2))), (0, .ref ra), (2, .int (nI i))]) hx hb dX8_warmest_57 rfl hl (by decide) rfl (fun ls hl => ?_)
          refine lv_iinc (v := (nI (i + 1))) (lv' := [(2, .int (nI (i + 1))), (1, .int (nI i)), (3, .int ((((sX8_of f i 3) - (sX8_of f i 2)) - (sX8_of f k_1 3)) + (sX8_of f k_1 2))), (0, .ref ra)]) hx hb dX8_warmest_58 hl (k := 3) rfl (nI_add i 1) (by decide) rfl (fun ls hl => ?_)
          refine lv_goto (tgt := 4) hx hb dX8_warmest_61 (by decide) ?_
          exact ih (i + 1) (some i) (by omega) (by first | exact hw | (intro k h; cases h; omega)) eS _ _ ls hP hD hS (lv_sub hl [3, 0, 1] rfl)
  exact L_2 n 0 none (Nat.zero_add _) (fun k h => by cases h) eS _ _ ls hP hD hS (lv_sub hl [2, 0, 1] rfl)
def sX8_coming_z_2 (q : Nat → Int32) (tx : Nat → Int32) (f : Nat → Int32) (ft : Nat → Int32) (dy : Nat → Int32) (kp : Nat → Int32) (ik : Nat → Int32) (jb : Nat → Int32) (n : Nat) (x : Int32) (y : Int32) (z_1 : (Nat → Int32)) (z_2 : Int32 × (Nat → Int32) × (Nat → Int32) × (Nat → Int32)) : Int32 × (Nat → Int32) × (Nat → Int32) × (Nat → Int32) :=
  (if y = 0 then (z_2.1, z_2.2.1, z_2.2.2.2, z_2.2.2.1) else (if y = 1 then (((z_2.2.2.2 3) - (f 3)), z_2.2.1, z_2.2.2.2, z_2.2.2.1) else (if y = 2 then (((z_2.2.2.2 6) - (f 6)), z_2.2.1, z_2.2.2.2, z_2.2.2.1) else (if y = 3 then (((z_2.2.2.2 7) - (f 7)), z_2.2.1, z_2.2.2.2, z_2.2.2.1) else ((ob (sX8_warmest z_2.2.2.2 n)), z_2.2.1, z_2.2.2.2, z_2.2.2.1)))))
def sX8_coming_z_1 (q : Nat → Int32) (tx : Nat → Int32) (f : Nat → Int32) (ft : Nat → Int32) (dy : Nat → Int32) (kp : Nat → Int32) (ik : Nat → Int32) (jb : Nat → Int32) (n : Nat) (x : Int32) (y : Int32) (z_1 : (Nat → Int32)) : Int32 × (Nat → Int32) × (Nat → Int32) × (Nat → Int32) :=
  (sX8_coming_z_2 q tx f ft dy kp ik jb n x y z_1 (sX8_runOn (upd q 0 0) jb z_1 x n))
def sX8_coming (q : Nat → Int32) (tx : Nat → Int32) (f : Nat → Int32) (ft : Nat → Int32) (dy : Nat → Int32) (kp : Nat → Int32) (ik : Nat → Int32) (jb : Nat → Int32) (n : Nat) (x : Int32) (y : Int32) : Int32 × (Nat → Int32) × (Nat → Int32) × (Nat → Int32) :=
  (if (sX8_in (x.toInt64) 1 240) = 0 then (0, (upd q 0 1), ft, jb) else (if (sX8_in (y.toInt64) 0 4) = 0 then (0, (upd q 0 1), ft, jb) else (sX8_coming_z_1 q tx f ft dy kp ik jb n x y (sX8_copyState 0 0 f ft))))
set_option maxRecDepth 100000 in
set_option maxHeartbeats 4000000 in
theorem c_X8_coming (l : Launch) (G : va_G) (kk : Nat → ClassId) (h : Nat) (b : Nat → Nat) (q : Nat → Int32) (tx : Nat → Int32) (f : Nat → Int32) (ft : Nat → Int32) (dy : Nat → Int32) (kp : Nat → Int32) (ik : Nat → Int32) (jb : Nat → Int32) (n : Nat) (x : Int32) (y : Int32) (hn : f 0 = nI n) (h6 : n ≤ 6) : CC l yX8_coming cX8_coming 4 (some .int) (rmO 6 136) [.ref h, .int x, .int y] G kk ([(h, .inr (8, moF b q)), ((b 1), .inl (kk 0, 120, .inl tx)), ((b 2), .inl (kk 0, 64, .inl f)), ((b 3), .inl (kk 0, 64, .inl ft)), ((b 4), .inl (kk 0, 896, .inl dy)), ((b 5), .inl (kk 0, 128, .inl kp)), ((b 6), .inl (kk 2, 2, .inl ik)), ((b 7), .inl (kk 0, 6, .inl jb))]) (QI G kk ([(h, .inr (8, moF b ((sX8_coming q tx f ft dy kp ik jb n x y).2.1))), ((b 1), .inl (kk 0, 120, .inl tx)), ((b 2), .inl (kk 0, 64, .inl f)), ((b 3), .inl (kk 0, 64, .inl ((sX8_coming q tx f ft dy kp ik jb n x y).2.2.1))), ((b 4), .inl (kk 0, 896, .inl dy)), ((b 5), .inl (kk 0, 128, .inl kp)), ((b 6), .inl (kk 2, 2, .inl ik)), ((b 7), .inl (kk 0, 6, .inl ((sX8_coming q tx f ft dy kp ik jb n x y).2.2.2)))]) ((sX8_coming q tx f ft dy kp ik jb n x y).1)) := by
  refine cc_start (by decide +kernel) (Nat.le_of_ble_eq_true rfl) ?_
  intro p e s m below meth c A ls hx hb hr hml hown hts hlocks hA hE hK hP hD hS hl
  have hown : s.vm.findClass RX8 = some m.cls := hown
  have hl : lv_has ls 4 [(0, .ref h), (1, .int x), (2, .int y)] := hl
  have eS : sX8_coming q tx f ft dy kp ik jb n x y = sX8_coming q tx f ft dy kp ik jb n x y := rfl
  refine lv_aload_n hx hb dX8_coming_0 rfl (lv_at hl 0 rfl) ?_
  refine lv_iload_n hx hb dX8_coming_1 rfl (lv_at hl 1 rfl) ?_
  refine lv_i2l (v := (x.toInt64)) hx hb dX8_coming_2 (by first | rfl | decide) ?_
  refine lv_lconst (v := 1) hx hb dX8_coming_3 rfl ?_
  refine lv_ldc2 (v := 240) hx hb hown (hts _ kl_X8_202) dX8_coming_4 ?_
  refine k_goI (k_runS (rest := [.ref h]) (As := [.long (x.toInt64), .long 1, .long 240]) hx hb hml hown hts hK hP hD hS hA hE hl.1 (c_X8_in l G kk (x.toInt64) 1 240 ) sl_X8_40 ⟨Nat.le_of_ble_eq_true rfl, Nat.le_of_ble_eq_true rfl, rfl, rfl⟩ [] rfl rfl ⟨Nat.zero_le _, Nat.zero_le _⟩ rfl (Nat.le_of_ble_eq_true rfl) dX8_coming_7) hP hD hS hA [] rfl ads0 (fun H locs hP hD hS => ?_)
  replace hP : va_P G vwCl ([(h, .inr (8, moF b q)), ((b 1), .inl (kk 0, 120, .inl tx)), ((b 2), .inl (kk 0, 64, .inl f)), ((b 3), .inl (kk 0, 64, .inl ft)), ((b 4), .inl (kk 0, 896, .inl dy)), ((b 5), .inl (kk 0, 128, .inl kp)), ((b 6), .inl (kk 2, 2, .inl ik)), ((b 7), .inl (kk 0, 6, .inl jb))]) H := hP
  replace hD : va_D A ([(h, .inr (8, moF b q)), ((b 1), .inl (kk 0, 120, .inl tx)), ((b 2), .inl (kk 0, 64, .inl f)), ((b 3), .inl (kk 0, 64, .inl ft)), ((b 4), .inl (kk 0, 896, .inl dy)), ((b 5), .inl (kk 0, 128, .inl kp)), ((b 6), .inl (kk 2, 2, .inl ik)), ((b 7), .inl (kk 0, 6, .inl jb))]) := hD
  refine lv_if_eq (tgt := 29) hx hb dX8_coming_10 (by decide) (fun c_10 => ?_) (fun c_10 => ?_)
  · have eS := eS.trans (if_pos c_10)
    refine lv_iconst (v := 1) hx hb dX8_coming_29 (by decide) ?_
    refine k_goI (k_runV (rest := []) (As := [.int 1]) hx hb hml hown hts hK hP hD hS hA hE hl.1 (c_X8_refused9 l G kk h b q 1) vl_X8_119 rfl rfl rfl ⟨Nat.le_of_ble_eq_true rfl, Nat.le_of_ble_eq_true rfl, rfl, rfl⟩ [0] rfl rfl ⟨Nat.zero_le _, Nat.zero_le _⟩ rfl (Nat.le_of_ble_eq_true rfl) dX8_coming_30) hP hD hS hA [0] rfl ads1 (fun H locs hP hD hS => ?_)
    replace hP : va_P G vwCl ([(h, .inr (8, moF b (upd q 0 1))), ((b 1), .inl (kk 0, 120, .inl tx)), ((b 2), .inl (kk 0, 64, .inl f)), ((b 3), .inl (kk 0, 64, .inl ft)), ((b 4), .inl (kk 0, 896, .inl dy)), ((b 5), .inl (kk 0, 128, .inl kp)), ((b 6), .inl (kk 2, 2, .inl ik)), ((b 7), .inl (kk 0, 6, .inl jb))]) H := hP
    replace hD : va_D A ([(h, .inr (8, moF b (upd q 0 1))), ((b 1), .inl (kk 0, 120, .inl tx)), ((b 2), .inl (kk 0, 64, .inl f)), ((b 3), .inl (kk 0, 64, .inl ft)), ((b 4), .inl (kk 0, 896, .inl dy)), ((b 5), .inl (kk 0, 128, .inl kp)), ((b 6), .inl (kk 2, 2, .inl ik)), ((b 7), .inl (kk 0, 6, .inl jb))]) := hD
    refine top_eq (y := 1) (by decide) ?_
    refine lv_if_eq (tgt := 38) hx hb dX8_coming_33 (by decide) (fun c_33 => absurd c_33 (by decide)) (fun c_33 => ?_)
    refine lv_iconst (v := 0) hx hb dX8_coming_36 (by decide) ?_
    exact fin_i hx hb hr hlocks hK (vP_eq (congrArg (fun z : Int32 × (Nat → Int32) × (Nat → Int32) × (Nat → Int32) => ([(h, .inr (8, moF b z.2.1)), ((b 1), .inl (kk 0, 120, .inl tx)), ((b 2), .inl (kk 0, 64, .inl f)), ((b 3), .inl (kk 0, 64, .inl z.2.2.1)), ((b 4), .inl (kk 0, 896, .inl dy)), ((b 5), .inl (kk 0, 128, .inl kp)), ((b 6), .inl (kk 2, 2, .inl ik)), ((b 7), .inl (kk 0, 6, .inl z.2.2.2))] : va_W)) eS.symm) hP) (vD_eq (congrArg (fun z : Int32 × (Nat → Int32) × (Nat → Int32) × (Nat → Int32) => ([(h, .inr (8, moF b z.2.1)), ((b 1), .inl (kk 0, 120, .inl tx)), ((b 2), .inl (kk 0, 64, .inl f)), ((b 3), .inl (kk 0, 64, .inl z.2.2.1)), ((b 4), .inl (kk 0, 896, .inl dy)), ((b 5), .inl (kk 0, 128, .inl kp)), ((b 6), .inl (kk 2, 2, .inl ik)), ((b 7), .inl (kk 0, 6, .inl z.2.2.2))] : va_W)) eS.symm) hD) hS (congrArg (fun z : Int32 × (Nat → Int32) × (Nat → Int32) × (Nat → Int32) => z.1) eS) dX8_coming_37
  · have eS := eS.trans (if_neg c_10)
    refine lv_iload_n hx hb dX8_coming_13 rfl (lv_at hl 2 rfl) ?_
    refine lv_i2l (v := (y.toInt64)) hx hb dX8_coming_14 (by first | rfl | decide) ?_
    refine lv_lconst (v := 0) hx hb dX8_coming_15 rfl ?_
    refine lv_ldc2 (v := 4) hx hb hown (hts _ kl_X8_204) dX8_coming_16 ?_
    refine k_goI (k_runS (rest := [.ref h]) (As := [.long (y.toInt64), .long 0, .long 4]) hx hb hml hown hts hK hP hD hS hA hE hl.1 (c_X8_in l G kk (y.toInt64) 0 4 ) sl_X8_40 ⟨Nat.le_of_ble_eq_true rfl, Nat.le_of_ble_eq_true rfl, rfl, rfl⟩ [] rfl rfl ⟨Nat.zero_le _, Nat.zero_le _⟩ rfl (Nat.le_of_ble_eq_true rfl) dX8_coming_19) hP hD hS hA [] rfl ads0 (fun H locs hP hD hS => ?_)
    replace hP : va_P G vwCl ([(h, .inr (8, moF b q)), ((b 1), .inl (kk 0, 120, .inl tx)), ((b 2), .inl (kk 0, 64, .inl f)), ((b 3), .inl (kk 0, 64, .inl ft)), ((b 4), .inl (kk 0, 896, .inl dy)), ((b 5), .inl (kk 0, 128, .inl kp)), ((b 6), .inl (kk 2, 2, .inl ik)), ((b 7), .inl (kk 0, 6, .inl jb))]) H := hP
    replace hD : va_D A ([(h, .inr (8, moF b q)), ((b 1), .inl (kk 0, 120, .inl tx)), ((b 2), .inl (kk 0, 64, .inl f)), ((b 3), .inl (kk 0, 64, .inl ft)), ((b 4), .inl (kk 0, 896, .inl dy)), ((b 5), .inl (kk 0, 128, .inl kp)), ((b 6), .inl (kk 2, 2, .inl ik)), ((b 7), .inl (kk 0, 6, .inl jb))]) := hD
    refine lv_if_eq (tgt := 29) hx hb dX8_coming_22 (by decide) (fun c_22 => ?_) (fun c_22 => ?_)
    · have eS := eS.trans (if_pos c_22)
      refine lv_iconst (v := 1) hx hb dX8_coming_29 (by decide) ?_
      refine k_goI (k_runV (rest := []) (As := [.int 1]) hx hb hml hown hts hK hP hD hS hA hE hl.1 (c_X8_refused9 l G kk h b q 1) vl_X8_119 rfl rfl rfl ⟨Nat.le_of_ble_eq_true rfl, Nat.le_of_ble_eq_true rfl, rfl, rfl⟩ [0] rfl rfl ⟨Nat.zero_le _, Nat.zero_le _⟩ rfl (Nat.le_of_ble_eq_true rfl) dX8_coming_30) hP hD hS hA [0] rfl ads1 (fun H locs hP hD hS => ?_)
      replace hP : va_P G vwCl ([(h, .inr (8, moF b (upd q 0 1))), ((b 1), .inl (kk 0, 120, .inl tx)), ((b 2), .inl (kk 0, 64, .inl f)), ((b 3), .inl (kk 0, 64, .inl ft)), ((b 4), .inl (kk 0, 896, .inl dy)), ((b 5), .inl (kk 0, 128, .inl kp)), ((b 6), .inl (kk 2, 2, .inl ik)), ((b 7), .inl (kk 0, 6, .inl jb))]) H := hP
      replace hD : va_D A ([(h, .inr (8, moF b (upd q 0 1))), ((b 1), .inl (kk 0, 120, .inl tx)), ((b 2), .inl (kk 0, 64, .inl f)), ((b 3), .inl (kk 0, 64, .inl ft)), ((b 4), .inl (kk 0, 896, .inl dy)), ((b 5), .inl (kk 0, 128, .inl kp)), ((b 6), .inl (kk 2, 2, .inl ik)), ((b 7), .inl (kk 0, 6, .inl jb))]) := hD
      refine top_eq (y := 1) (by decide) ?_
      refine lv_if_eq (tgt := 38) hx hb dX8_coming_33 (by decide) (fun c_33 => absurd c_33 (by decide)) (fun c_33 => ?_)
      refine lv_iconst (v := 0) hx hb dX8_coming_36 (by decide) ?_
      exact fin_i hx hb hr hlocks hK (vP_eq (congrArg (fun z : Int32 × (Nat → Int32) × (Nat → Int32) × (Nat → Int32) => ([(h, .inr (8, moF b z.2.1)), ((b 1), .inl (kk 0, 120, .inl tx)), ((b 2), .inl (kk 0, 64, .inl f)), ((b 3), .inl (kk 0, 64, .inl z.2.2.1)), ((b 4), .inl (kk 0, 896, .inl dy)), ((b 5), .inl (kk 0, 128, .inl kp)), ((b 6), .inl (kk 2, 2, .inl ik)), ((b 7), .inl (kk 0, 6, .inl z.2.2.2))] : va_W)) eS.symm) hP) (vD_eq (congrArg (fun z : Int32 × (Nat → Int32) × (Nat → Int32) × (Nat → Int32) => ([(h, .inr (8, moF b z.2.1)), ((b 1), .inl (kk 0, 120, .inl tx)), ((b 2), .inl (kk 0, 64, .inl f)), ((b 3), .inl (kk 0, 64, .inl z.2.2.1)), ((b 4), .inl (kk 0, 896, .inl dy)), ((b 5), .inl (kk 0, 128, .inl kp)), ((b 6), .inl (kk 2, 2, .inl ik)), ((b 7), .inl (kk 0, 6, .inl z.2.2.2))] : va_W)) eS.symm) hD) hS (congrArg (fun z : Int32 × (Nat → Int32) × (Nat → Int32) × (Nat → Int32) => z.1) eS) dX8_coming_37
    · have eS := eS.trans (if_neg c_22)
      refine lv_iconst (v := 0) hx hb dX8_coming_25 (by decide) ?_
      refine lv_goto (tgt := 30) hx hb dX8_coming_26 (by decide) ?_
      refine k_goI (k_runV (rest := []) (As := [.int 0]) hx hb hml hown hts hK hP hD hS hA hE hl.1 (c_X8_refused9 l G kk h b q 0) vl_X8_119 rfl rfl rfl ⟨Nat.le_of_ble_eq_true rfl, Nat.le_of_ble_eq_true rfl, rfl, rfl⟩ [0] rfl rfl ⟨Nat.zero_le _, Nat.zero_le _⟩ rfl (Nat.le_of_ble_eq_true rfl) dX8_coming_30) hP hD hS hA [0] rfl ads1 (fun H locs hP hD hS => ?_)
      replace hP : va_P G vwCl ([(h, .inr (8, moF b (upd q 0 0))), ((b 1), .inl (kk 0, 120, .inl tx)), ((b 2), .inl (kk 0, 64, .inl f)), ((b 3), .inl (kk 0, 64, .inl ft)), ((b 4), .inl (kk 0, 896, .inl dy)), ((b 5), .inl (kk 0, 128, .inl kp)), ((b 6), .inl (kk 2, 2, .inl ik)), ((b 7), .inl (kk 0, 6, .inl jb))]) H := hP
      replace hD : va_D A ([(h, .inr (8, moF b (upd q 0 0))), ((b 1), .inl (kk 0, 120, .inl tx)), ((b 2), .inl (kk 0, 64, .inl f)), ((b 3), .inl (kk 0, 64, .inl ft)), ((b 4), .inl (kk 0, 896, .inl dy)), ((b 5), .inl (kk 0, 128, .inl kp)), ((b 6), .inl (kk 2, 2, .inl ik)), ((b 7), .inl (kk 0, 6, .inl jb))]) := hD
      refine top_eq (y := 0) (by decide) ?_
      refine lv_if_eq (tgt := 38) hx hb dX8_coming_33 (by decide) (fun c_33 => ?_) (fun c_33 => absurd (by decide) c_33)
      obtain ⟨hx1, hx2⟩ := in_p (n := 240) c_10 rfl
      refine lv_aload_n hx hb dX8_coming_38 rfl (lv_at hl 0 rfl) ?_
      refine r_get (v := .ref (b 2)) hx hb hts hown hK hP fl_X8_13 0 rfl rfl dX8_coming_39 ?_
      refine lv_iconst (v := 0) hx hb dX8_coming_42 (by decide) ?_
      refine lv_aload_n hx hb dX8_coming_43 rfl (lv_at hl 0 rfl) ?_
      refine r_get (v := .ref (b 3)) hx hb hts hown hK hP fl_X8_16 0 rfl rfl dX8_coming_44 ?_
      refine lv_iconst (v := 0) hx hb dX8_coming_47 (by decide) ?_
      refine k_goV (k_runS (rest := []) (As := [.ref (b 2), .int 0, .ref (b 3), .int 0]) hx hb hml hown hts hK hP hD hS hA hE hl.1 (c_X8_copyState l G kk (b 2) 0 (b 3) 0 64 64 f ft (by omega) (by omega) (by omega) (by omega)) sl_X8_175 ⟨Nat.le_of_ble_eq_true rfl, Nat.le_of_ble_eq_true rfl, rfl, rfl⟩ [2, 3] rfl rfl ⟨Nat.zero_le _, Nat.zero_le _⟩ rfl (Nat.le_of_ble_eq_true rfl) dX8_coming_48) hP hD hS hA [2, 3] rfl ads2 (fun H locs hP hD hS => ?_)
      replace hP : va_P G vwCl ([(h, .inr (8, moF b (upd q 0 0))), ((b 1), .inl (kk 0, 120, .inl tx)), ((b 2), .inl (kk 0, 64, .inl f)), ((b 3), .inl (kk 0, 64, .inl (sX8_copyState 0 0 f ft))), ((b 4), .inl (kk 0, 896, .inl dy)), ((b 5), .inl (kk 0, 128, .inl kp)), ((b 6), .inl (kk 2, 2, .inl ik)), ((b 7), .inl (kk 0, 6, .inl jb))]) H := hP
      replace hD : va_D A ([(h, .inr (8, moF b (upd q 0 0))), ((b 1), .inl (kk 0, 120, .inl tx)), ((b 2), .inl (kk 0, 64, .inl f)), ((b 3), .inl (kk 0, 64, .inl (sX8_copyState 0 0 f ft))), ((b 4), .inl (kk 0, 896, .inl dy)), ((b 5), .inl (kk 0, 128, .inl kp)), ((b 6), .inl (kk 2, 2, .inl ik)), ((b 7), .inl (kk 0, 6, .inl jb))]) := hD
      have eS : sX8_coming q tx f ft dy kp ik jb n x y = sX8_coming_z_1 q tx f ft dy kp ik jb n x y (sX8_copyState 0 0 f ft) := eS
      have hz_1 := (cs_0 f ft)
      generalize sX8_copyState 0 0 f ft = z_1 at hP hD eS hz_1 ⊢
      have hf0 : z_1 0 = nI n := hz_1.trans hn
      refine lv_aload_n hx hb dX8_coming_51 rfl (lv_at hl 0 rfl) ?_
      refine lv_aload_n hx hb dX8_coming_52 rfl (lv_at hl 0 rfl) ?_
      refine r_get (v := .ref (b 3)) hx hb hts hown hK hP fl_X8_16 0 rfl rfl dX8_coming_53 ?_
      refine lv_iload_n hx hb dX8_coming_56 rfl (lv_at hl 1 rfl) ?_
      refine k_goI (k_runV (rest := []) (As := [.ref (b 3), .int x]) hx hb hml hown hts hK hP hD hS hA hE hl.1 (c_X8_runOn l G kk h b (upd q 0 0) jb (b 3) z_1 x n hf0 h6 hx1) vl_X8_165 rfl rfl rfl ⟨Nat.le_of_ble_eq_true rfl, Nat.le_of_ble_eq_true rfl, rfl, rfl⟩ [0, 7, 3] rfl rfl ⟨Nat.zero_le _, Nat.zero_le _⟩ rfl (Nat.le_of_ble_eq_true rfl) dX8_coming_57) hP hD hS hA [0, 7, 3] rfl ads3 (fun H locs hP hD hS => ?_)
      replace hP : va_P G vwCl ([(h, .inr (8, moF b ((sX8_runOn (upd q 0 0) jb z_1 x n).2.1))), ((b 1), .inl (kk 0, 120, .inl tx)), ((b 2), .inl (kk 0, 64, .inl f)), ((b 3), .inl (kk 0, 64, .inl ((sX8_runOn (upd q 0 0) jb z_1 x n).2.2.2))), ((b 4), .inl (kk 0, 896, .inl dy)), ((b 5), .inl (kk 0, 128, .inl kp)), ((b 6), .inl (kk 2, 2, .inl ik)), ((b 7), .inl (kk 0, 6, .inl ((sX8_runOn (upd q 0 0) jb z_1 x n).2.2.1)))]) H := hP
      replace hD : va_D A ([(h, .inr (8, moF b ((sX8_runOn (upd q 0 0) jb z_1 x n).2.1))), ((b 1), .inl (kk 0, 120, .inl tx)), ((b 2), .inl (kk 0, 64, .inl f)), ((b 3), .inl (kk 0, 64, .inl ((sX8_runOn (upd q 0 0) jb z_1 x n).2.2.2))), ((b 4), .inl (kk 0, 896, .inl dy)), ((b 5), .inl (kk 0, 128, .inl kp)), ((b 6), .inl (kk 2, 2, .inl ik)), ((b 7), .inl (kk 0, 6, .inl ((sX8_runOn (upd q 0 0) jb z_1 x n).2.2.1)))]) := hD
      have eS : sX8_coming q tx f ft dy kp ik jb n x y = sX8_coming_z_2 q tx f ft dy kp ik jb n x y z_1 (sX8_runOn (upd q 0 0) jb z_1 x n) := eS
      have hz_2 := rn_0 h6 (upd q 0 0) jb z_1 x
      generalize sX8_runOn (upd q 0 0) jb z_1 x n = z_2 at hP hD eS hz_2 ⊢
      refine lv_istore_n (lv' := [(3, .int z_2.1), (0, .ref h), (1, .int x), (2, .int y)]) hx hb dX8_coming_60 rfl hl (by decide) rfl (fun ls hl => ?_)
      refine lv_iload_n hx hb dX8_coming_61 rfl (lv_at hl 3 rfl) ?_
      refine (Decidable.em (y = 0)).elim (fun c_62_0 => ?_) (fun c_62_0 => ?_)
      · have eS := eS.trans (if_pos c_62_0)
        refine lv_tableIn (tgt := 92) hx hb dX8_coming_62 (by rw [c_62_0]; decide) (by rw [c_62_0]; decide) (by rw [c_62_0]; rfl) (by decide) ?_
        refine lv_iload_n hx hb dX8_coming_92 rfl (lv_at hl 0 rfl) ?_
        exact fin_i hx hb hr hlocks hK (vP_eq (congrArg (fun z : Int32 × (Nat → Int32) × (Nat → Int32) × (Nat → Int32) => ([(h, .inr (8, moF b z.2.1)), ((b 1), .inl (kk 0, 120, .inl tx)), ((b 2), .inl (kk 0, 64, .inl f)), ((b 3), .inl (kk 0, 64, .inl z.2.2.1)), ((b 4), .inl (kk 0, 896, .inl dy)), ((b 5), .inl (kk 0, 128, .inl kp)), ((b 6), .inl (kk 2, 2, .inl ik)), ((b 7), .inl (kk 0, 6, .inl z.2.2.2))] : va_W)) eS.symm) hP) (vD_eq (congrArg (fun z : Int32 × (Nat → Int32) × (Nat → Int32) × (Nat → Int32) => ([(h, .inr (8, moF b z.2.1)), ((b 1), .inl (kk 0, 120, .inl tx)), ((b 2), .inl (kk 0, 64, .inl f)), ((b 3), .inl (kk 0, 64, .inl z.2.2.1)), ((b 4), .inl (kk 0, 896, .inl dy)), ((b 5), .inl (kk 0, 128, .inl kp)), ((b 6), .inl (kk 2, 2, .inl ik)), ((b 7), .inl (kk 0, 6, .inl z.2.2.2))] : va_W)) eS.symm) hD) hS ((congrArg (fun z : Int32 × (Nat → Int32) × (Nat → Int32) × (Nat → Int32) => z.1) eS).trans rfl) dX8_coming_93
      have eS := eS.trans (if_neg c_62_0)
      refine (Decidable.em (y = 1)).elim (fun c_62_1 => ?_) (fun c_62_1 => ?_)
      · have eS := eS.trans (if_pos c_62_1)
        refine lv_tableIn (tgt := 94) hx hb dX8_coming_62 (by rw [c_62_1]; decide) (by rw [c_62_1]; decide) (by rw [c_62_1]; rfl) (by decide) ?_
        refine lv_aload_n hx hb dX8_coming_94 rfl (lv_at hl 1 rfl) ?_
        refine r_get (v := .ref (b 3)) hx hb hts hown hK hP fl_X8_16 0 rfl rfl dX8_coming_95 ?_
        refine lv_iconst (v := 3) hx hb dX8_coming_98 (by decide) ?_
        refine r_iald hx hb hK hP 3 rfl 3 rfl (by decide) (by decide) dX8_coming_99 ?_
        refine lv_aload_n hx hb dX8_coming_100 rfl (lv_at hl 1 rfl) ?_
        refine r_get (v := .ref (b 2)) hx hb hts hown hK hP fl_X8_13 0 rfl rfl dX8_coming_101 ?_
        refine lv_iconst (v := 3) hx hb dX8_coming_104 (by decide) ?_
        refine r_iald hx hb hK hP 2 rfl 3 rfl (by decide) (by decide) dX8_coming_105 ?_
        refine lv_isub hx hb dX8_coming_106 ?_
        exact fin_i hx hb hr hlocks hK (vP_eq (congrArg (fun z : Int32 × (Nat → Int32) × (Nat → Int32) × (Nat → Int32) => ([(h, .inr (8, moF b z.2.1)), ((b 1), .inl (kk 0, 120, .inl tx)), ((b 2), .inl (kk 0, 64, .inl f)), ((b 3), .inl (kk 0, 64, .inl z.2.2.1)), ((b 4), .inl (kk 0, 896, .inl dy)), ((b 5), .inl (kk 0, 128, .inl kp)), ((b 6), .inl (kk 2, 2, .inl ik)), ((b 7), .inl (kk 0, 6, .inl z.2.2.2))] : va_W)) eS.symm) hP) (vD_eq (congrArg (fun z : Int32 × (Nat → Int32) × (Nat → Int32) × (Nat → Int32) => ([(h, .inr (8, moF b z.2.1)), ((b 1), .inl (kk 0, 120, .inl tx)), ((b 2), .inl (kk 0, 64, .inl f)), ((b 3), .inl (kk 0, 64, .inl z.2.2.1)), ((b 4), .inl (kk 0, 896, .inl dy)), ((b 5), .inl (kk 0, 128, .inl kp)), ((b 6), .inl (kk 2, 2, .inl ik)), ((b 7), .inl (kk 0, 6, .inl z.2.2.2))] : va_W)) eS.symm) hD) hS (congrArg (fun z : Int32 × (Nat → Int32) × (Nat → Int32) × (Nat → Int32) => z.1) eS) dX8_coming_107
      have eS := eS.trans (if_neg c_62_1)
      refine (Decidable.em (y = 2)).elim (fun c_62_2 => ?_) (fun c_62_2 => ?_)
      · have eS := eS.trans (if_pos c_62_2)
        refine lv_tableIn (tgt := 108) hx hb dX8_coming_62 (by rw [c_62_2]; decide) (by rw [c_62_2]; decide) (by rw [c_62_2]; rfl) (by decide) ?_
        refine lv_aload_n hx hb dX8_coming_108 rfl (lv_at hl 1 rfl) ?_
        refine r_get (v := .ref (b 3)) hx hb hts hown hK hP fl_X8_16 0 rfl rfl dX8_coming_109 ?_
        refine lv_bipush (v := 6) hx hb dX8_coming_112 (by decide) ?_
        refine r_iald hx hb hK hP 3 rfl 6 rfl (by decide) (by decide) dX8_coming_114 ?_
        refine lv_aload_n hx hb dX8_coming_115 rfl (lv_at hl 1 rfl) ?_
        refine r_get (v := .ref (b 2)) hx hb hts hown hK hP fl_X8_13 0 rfl rfl dX8_coming_116 ?_
        refine lv_bipush (v := 6) hx hb dX8_coming_119 (by decide) ?_
        refine r_iald hx hb hK hP 2 rfl 6 rfl (by decide) (by decide) dX8_coming_121 ?_
        refine lv_isub hx hb dX8_coming_122 ?_
        exact fin_i hx hb hr hlocks hK (vP_eq (congrArg (fun z : Int32 × (Nat → Int32) × (Nat → Int32) × (Nat → Int32) => ([(h, .inr (8, moF b z.2.1)), ((b 1), .inl (kk 0, 120, .inl tx)), ((b 2), .inl (kk 0, 64, .inl f)), ((b 3), .inl (kk 0, 64, .inl z.2.2.1)), ((b 4), .inl (kk 0, 896, .inl dy)), ((b 5), .inl (kk 0, 128, .inl kp)), ((b 6), .inl (kk 2, 2, .inl ik)), ((b 7), .inl (kk 0, 6, .inl z.2.2.2))] : va_W)) eS.symm) hP) (vD_eq (congrArg (fun z : Int32 × (Nat → Int32) × (Nat → Int32) × (Nat → Int32) => ([(h, .inr (8, moF b z.2.1)), ((b 1), .inl (kk 0, 120, .inl tx)), ((b 2), .inl (kk 0, 64, .inl f)), ((b 3), .inl (kk 0, 64, .inl z.2.2.1)), ((b 4), .inl (kk 0, 896, .inl dy)), ((b 5), .inl (kk 0, 128, .inl kp)), ((b 6), .inl (kk 2, 2, .inl ik)), ((b 7), .inl (kk 0, 6, .inl z.2.2.2))] : va_W)) eS.symm) hD) hS (congrArg (fun z : Int32 × (Nat → Int32) × (Nat → Int32) × (Nat → Int32) => z.1) eS) dX8_coming_123
      have eS := eS.trans (if_neg c_62_2)
      refine (Decidable.em (y = 3)).elim (fun c_62_3 => ?_) (fun c_62_3 => ?_)
      · have eS := eS.trans (if_pos c_62_3)
        refine lv_tableIn (tgt := 124) hx hb dX8_coming_62 (by rw [c_62_3]; decide) (by rw [c_62_3]; decide) (by rw [c_62_3]; rfl) (by decide) ?_
        refine lv_aload_n hx hb dX8_coming_124 rfl (lv_at hl 1 rfl) ?_
        refine r_get (v := .ref (b 3)) hx hb hts hown hK hP fl_X8_16 0 rfl rfl dX8_coming_125 ?_
        refine lv_bipush (v := 7) hx hb dX8_coming_128 (by decide) ?_
        refine r_iald hx hb hK hP 3 rfl 7 rfl (by decide) (by decide) dX8_coming_130 ?_
        refine lv_aload_n hx hb dX8_coming_131 rfl (lv_at hl 1 rfl) ?_
        refine r_get (v := .ref (b 2)) hx hb hts hown hK hP fl_X8_13 0 rfl rfl dX8_coming_132 ?_
        refine lv_bipush (v := 7) hx hb dX8_coming_135 (by decide) ?_
        refine r_iald hx hb hK hP 2 rfl 7 rfl (by decide) (by decide) dX8_coming_137 ?_
        refine lv_isub hx hb dX8_coming_138 ?_
        exact fin_i hx hb hr hlocks hK (vP_eq (congrArg (fun z : Int32 × (Nat → Int32) × (Nat → Int32) × (Nat → Int32) => ([(h, .inr (8, moF b z.2.1)), ((b 1), .inl (kk 0, 120, .inl tx)), ((b 2), .inl (kk 0, 64, .inl f)), ((b 3), .inl (kk 0, 64, .inl z.2.2.1)), ((b 4), .inl (kk 0, 896, .inl dy)), ((b 5), .inl (kk 0, 128, .inl kp)), ((b 6), .inl (kk 2, 2, .inl ik)), ((b 7), .inl (kk 0, 6, .inl z.2.2.2))] : va_W)) eS.symm) hP) (vD_eq (congrArg (fun z : Int32 × (Nat → Int32) × (Nat → Int32) × (Nat → Int32) => ([(h, .inr (8, moF b z.2.1)), ((b 1), .inl (kk 0, 120, .inl tx)), ((b 2), .inl (kk 0, 64, .inl f)), ((b 3), .inl (kk 0, 64, .inl z.2.2.1)), ((b 4), .inl (kk 0, 896, .inl dy)), ((b 5), .inl (kk 0, 128, .inl kp)), ((b 6), .inl (kk 2, 2, .inl ik)), ((b 7), .inl (kk 0, 6, .inl z.2.2.2))] : va_W)) eS.symm) hD) hS (congrArg (fun z : Int32 × (Nat → Int32) × (Nat → Int32) × (Nat → Int32) => z.1) eS) dX8_coming_139
      have eS := eS.trans (if_neg c_62_3)
      refine lv_tableOut (tgt := 140) hx hb dX8_coming_62 (by have t0 := lv_neT (a := 0) c_62_0 (by decide); have t1 := lv_neT (a := 1) c_62_1 (by decide); have t2 := lv_neT (a := 2) c_62_2 (by decide); have t3 := lv_neT (a := 3) c_62_3 (by decide); omega) (by decide) ?_
      have hf1 : z_2.2.2.2 0 = nI n := hz_2.trans hf0
      refine lv_aload_n hx hb dX8_coming_140 rfl (lv_at hl 1 rfl) ?_
      refine r_get (v := .ref (b 3)) hx hb hts hown hK hP fl_X8_16 0 rfl rfl dX8_coming_141 ?_
      refine k_goI (k_runS (rest := []) (As := [.ref (b 3)]) hx hb hml hown hts hK hP hD hS hA hE hl.1 (c_X8_warmest l G kk (b 3) z_2.2.2.2 n hf1 h6) sl_X8_206 ⟨Nat.le_of_ble_eq_true rfl, Nat.le_of_ble_eq_true rfl, rfl, rfl⟩ [3] rfl rfl ⟨Nat.zero_le _, Nat.zero_le _⟩ rfl (Nat.le_of_ble_eq_true rfl) dX8_coming_144) hP hD hS hA [3] rfl ads1 (fun H locs hP hD hS => ?_)
      replace hP : va_P G vwCl ([(h, .inr (8, moF b z_2.2.1)), ((b 1), .inl (kk 0, 120, .inl tx)), ((b 2), .inl (kk 0, 64, .inl f)), ((b 3), .inl (kk 0, 64, .inl z_2.2.2.2)), ((b 4), .inl (kk 0, 896, .inl dy)), ((b 5), .inl (kk 0, 128, .inl kp)), ((b 6), .inl (kk 2, 2, .inl ik)), ((b 7), .inl (kk 0, 6, .inl z_2.2.2.1))]) H := hP
      replace hD : va_D A ([(h, .inr (8, moF b z_2.2.1)), ((b 1), .inl (kk 0, 120, .inl tx)), ((b 2), .inl (kk 0, 64, .inl f)), ((b 3), .inl (kk 0, 64, .inl z_2.2.2.2)), ((b 4), .inl (kk 0, 896, .inl dy)), ((b 5), .inl (kk 0, 128, .inl kp)), ((b 6), .inl (kk 2, 2, .inl ik)), ((b 7), .inl (kk 0, 6, .inl z_2.2.2.1))]) := hD
      exact fin_i hx hb hr hlocks hK (vP_eq (congrArg (fun z : Int32 × (Nat → Int32) × (Nat → Int32) × (Nat → Int32) => ([(h, .inr (8, moF b z.2.1)), ((b 1), .inl (kk 0, 120, .inl tx)), ((b 2), .inl (kk 0, 64, .inl f)), ((b 3), .inl (kk 0, 64, .inl z.2.2.1)), ((b 4), .inl (kk 0, 896, .inl dy)), ((b 5), .inl (kk 0, 128, .inl kp)), ((b 6), .inl (kk 2, 2, .inl ik)), ((b 7), .inl (kk 0, 6, .inl z.2.2.2))] : va_W)) eS.symm) hP) (vD_eq (congrArg (fun z : Int32 × (Nat → Int32) × (Nat → Int32) × (Nat → Int32) => ([(h, .inr (8, moF b z.2.1)), ((b 1), .inl (kk 0, 120, .inl tx)), ((b 2), .inl (kk 0, 64, .inl f)), ((b 3), .inl (kk 0, 64, .inl z.2.2.1)), ((b 4), .inl (kk 0, 896, .inl dy)), ((b 5), .inl (kk 0, 128, .inl kp)), ((b 6), .inl (kk 2, 2, .inl ik)), ((b 7), .inl (kk 0, 6, .inl z.2.2.2))] : va_W)) eS.symm) hD) hS (congrArg (fun z : Int32 × (Nat → Int32) × (Nat → Int32) × (Nat → Int32) => z.1) eS) dX8_coming_147
def lp_X8_leastLimit_28 (q : Nat → Int32) (tx : Nat → Int32) (f : Nat → Int32) (ft : Nat → Int32) (dy : Nat → Int32) (kp : Nat → Int32) (ik : Nat → Int32) (jb : Nat → Int32) (n : Nat) (x : Int32) : Nat → Nat → (Nat → Int32) → (Nat → Int32) → (Nat → Int32) → Int32 × (Nat → Int32) × (Nat → Int32) × (Nat → Int32)
  | 0, i, q1, jb1, ft1 => ((-1), q1, ft1, jb1)
  | d + 1, i, q1, jb1, ft1 => ((fun (z_1 : (Nat → Int32)) => ((fun (z_2 : Int32 × (Nat → Int32) × (Nat → Int32) × (Nat → Int32)) => (if (z_2.2.2.2 3) = (f 3) then ((nI (100 * i)), z_2.2.1, z_2.2.2.2, z_2.2.2.1) else (lp_X8_leastLimit_28 q tx f ft dy kp ik jb n x d (i + 1) z_2.2.1 z_2.2.2.1 z_2.2.2.2))) (sX8_runOn q1 jb1 (upd z_1 10 (nI (100 * i))) x n))) (sX8_copyState 0 0 f ft1))
def sX8_leastLimit (q : Nat → Int32) (tx : Nat → Int32) (f : Nat → Int32) (ft : Nat → Int32) (dy : Nat → Int32) (kp : Nat → Int32) (ik : Nat → Int32) (jb : Nat → Int32) (n : Nat) (x : Int32) : Int32 × (Nat → Int32) × (Nat → Int32) × (Nat → Int32) :=
  (if (sX8_in (x.toInt64) 1 60) = 0 then (0, (upd q 0 1), ft, jb) else (lp_X8_leastLimit_28 q tx f ft dy kp ik jb n x 100 0 (upd q 0 0) jb ft))
set_option maxRecDepth 100000 in
set_option maxHeartbeats 4000000 in
theorem c_X8_leastLimit (l : Launch) (G : va_G) (kk : Nat → ClassId) (h : Nat) (b : Nat → Nat) (q : Nat → Int32) (tx : Nat → Int32) (f : Nat → Int32) (ft : Nat → Int32) (dy : Nat → Int32) (kp : Nat → Int32) (ik : Nat → Int32) (jb : Nat → Int32) (n : Nat) (x : Int32) (hn : f 0 = nI n) (h6 : n ≤ 6) : CC l yX8_leastLimit cX8_leastLimit 3 (some .int) (rmO 6 136) [.ref h, .int x] G kk ([(h, .inr (8, moF b q)), ((b 1), .inl (kk 0, 120, .inl tx)), ((b 2), .inl (kk 0, 64, .inl f)), ((b 3), .inl (kk 0, 64, .inl ft)), ((b 4), .inl (kk 0, 896, .inl dy)), ((b 5), .inl (kk 0, 128, .inl kp)), ((b 6), .inl (kk 2, 2, .inl ik)), ((b 7), .inl (kk 0, 6, .inl jb))]) (QI G kk ([(h, .inr (8, moF b ((sX8_leastLimit q tx f ft dy kp ik jb n x).2.1))), ((b 1), .inl (kk 0, 120, .inl tx)), ((b 2), .inl (kk 0, 64, .inl f)), ((b 3), .inl (kk 0, 64, .inl ((sX8_leastLimit q tx f ft dy kp ik jb n x).2.2.1))), ((b 4), .inl (kk 0, 896, .inl dy)), ((b 5), .inl (kk 0, 128, .inl kp)), ((b 6), .inl (kk 2, 2, .inl ik)), ((b 7), .inl (kk 0, 6, .inl ((sX8_leastLimit q tx f ft dy kp ik jb n x).2.2.2)))]) ((sX8_leastLimit q tx f ft dy kp ik jb n x).1)) := by
  refine cc_start (by decide +kernel) (Nat.le_of_ble_eq_true rfl) ?_
  intro p e s m below meth c A ls hx hb hr hml hown hts hlocks hA hE hK hP hD hS hl
  have hown : s.vm.findClass RX8 = some m.cls := hown
  have hl : lv_has ls 3 [(0, .ref h), (1, .int x)] := hl
  have eS : sX8_leastLimit q tx f ft dy kp ik jb n x = sX8_leastLimit q tx f ft dy kp ik jb n x := rfl
  refine lv_aload_n hx hb dX8_leastLimit_0 rfl (lv_at hl 0 rfl) ?_
  refine lv_iload_n hx hb dX8_leastLimit_1 rfl (lv_at hl 1 rfl) ?_
  refine lv_i2l (v := (x.toInt64)) hx hb dX8_leastLimit_2 (by first | rfl | decide) ?_
  refine lv_lconst (v := 1) hx hb dX8_leastLimit_3 rfl ?_
  refine lv_ldc2 (v := 60) hx hb hown (hts _ kl_X8_196) dX8_leastLimit_4 ?_
  refine k_goI (k_runS (rest := [.ref h]) (As := [.long (x.toInt64), .long 1, .long 60]) hx hb hml hown hts hK hP hD hS hA hE hl.1 (c_X8_in l G kk (x.toInt64) 1 60 ) sl_X8_40 ⟨Nat.le_of_ble_eq_true rfl, Nat.le_of_ble_eq_true rfl, rfl, rfl⟩ [] rfl rfl ⟨Nat.zero_le _, Nat.zero_le _⟩ rfl (Nat.le_of_ble_eq_true rfl) dX8_leastLimit_7) hP hD hS hA [] rfl ads0 (fun H locs hP hD hS => ?_)
  replace hP : va_P G vwCl ([(h, .inr (8, moF b q)), ((b 1), .inl (kk 0, 120, .inl tx)), ((b 2), .inl (kk 0, 64, .inl f)), ((b 3), .inl (kk 0, 64, .inl ft)), ((b 4), .inl (kk 0, 896, .inl dy)), ((b 5), .inl (kk 0, 128, .inl kp)), ((b 6), .inl (kk 2, 2, .inl ik)), ((b 7), .inl (kk 0, 6, .inl jb))]) H := hP
  replace hD : va_D A ([(h, .inr (8, moF b q)), ((b 1), .inl (kk 0, 120, .inl tx)), ((b 2), .inl (kk 0, 64, .inl f)), ((b 3), .inl (kk 0, 64, .inl ft)), ((b 4), .inl (kk 0, 896, .inl dy)), ((b 5), .inl (kk 0, 128, .inl kp)), ((b 6), .inl (kk 2, 2, .inl ik)), ((b 7), .inl (kk 0, 6, .inl jb))]) := hD
  refine lv_if_eq (tgt := 17) hx hb dX8_leastLimit_10 (by decide) (fun c_10 => ?_) (fun c_10 => ?_)
  · have eS := eS.trans (if_pos c_10)
    refine lv_iconst (v := 1) hx hb dX8_leastLimit_17 (by decide) ?_
    refine k_goI (k_runV (rest := []) (As := [.int 1]) hx hb hml hown hts hK hP hD hS hA hE hl.1 (c_X8_refused9 l G kk h b q 1) vl_X8_119 rfl rfl rfl ⟨Nat.le_of_ble_eq_true rfl, Nat.le_of_ble_eq_true rfl, rfl, rfl⟩ [0] rfl rfl ⟨Nat.zero_le _, Nat.zero_le _⟩ rfl (Nat.le_of_ble_eq_true rfl) dX8_leastLimit_18) hP hD hS hA [0] rfl ads1 (fun H locs hP hD hS => ?_)
    replace hP : va_P G vwCl ([(h, .inr (8, moF b (upd q 0 1))), ((b 1), .inl (kk 0, 120, .inl tx)), ((b 2), .inl (kk 0, 64, .inl f)), ((b 3), .inl (kk 0, 64, .inl ft)), ((b 4), .inl (kk 0, 896, .inl dy)), ((b 5), .inl (kk 0, 128, .inl kp)), ((b 6), .inl (kk 2, 2, .inl ik)), ((b 7), .inl (kk 0, 6, .inl jb))]) H := hP
    replace hD : va_D A ([(h, .inr (8, moF b (upd q 0 1))), ((b 1), .inl (kk 0, 120, .inl tx)), ((b 2), .inl (kk 0, 64, .inl f)), ((b 3), .inl (kk 0, 64, .inl ft)), ((b 4), .inl (kk 0, 896, .inl dy)), ((b 5), .inl (kk 0, 128, .inl kp)), ((b 6), .inl (kk 2, 2, .inl ik)), ((b 7), .inl (kk 0, 6, .inl jb))]) := hD
    refine top_eq (y := 1) (by decide) ?_
    refine lv_if_eq (tgt := 26) hx hb dX8_leastLimit_21 (by decide) (fun c_21 => absurd c_21 (by decide)) (fun c_21 => ?_)
    refine lv_iconst (v := 0) hx hb dX8_leastLimit_24 (by decide) ?_
    exact fin_i hx hb hr hlocks hK (vP_eq (congrArg (fun z : Int32 × (Nat → Int32) × (Nat → Int32) × (Nat → Int32) => ([(h, .inr (8, moF b z.2.1)), ((b 1), .inl (kk 0, 120, .inl tx)), ((b 2), .inl (kk 0, 64, .inl f)), ((b 3), .inl (kk 0, 64, .inl z.2.2.1)), ((b 4), .inl (kk 0, 896, .inl dy)), ((b 5), .inl (kk 0, 128, .inl kp)), ((b 6), .inl (kk 2, 2, .inl ik)), ((b 7), .inl (kk 0, 6, .inl z.2.2.2))] : va_W)) eS.symm) hP) (vD_eq (congrArg (fun z : Int32 × (Nat → Int32) × (Nat → Int32) × (Nat → Int32) => ([(h, .inr (8, moF b z.2.1)), ((b 1), .inl (kk 0, 120, .inl tx)), ((b 2), .inl (kk 0, 64, .inl f)), ((b 3), .inl (kk 0, 64, .inl z.2.2.1)), ((b 4), .inl (kk 0, 896, .inl dy)), ((b 5), .inl (kk 0, 128, .inl kp)), ((b 6), .inl (kk 2, 2, .inl ik)), ((b 7), .inl (kk 0, 6, .inl z.2.2.2))] : va_W)) eS.symm) hD) hS (congrArg (fun z : Int32 × (Nat → Int32) × (Nat → Int32) × (Nat → Int32) => z.1) eS) dX8_leastLimit_25
  · have eS := eS.trans (if_neg c_10)
    refine lv_iconst (v := 0) hx hb dX8_leastLimit_13 (by decide) ?_
    refine lv_goto (tgt := 18) hx hb dX8_leastLimit_14 (by decide) ?_
    refine k_goI (k_runV (rest := []) (As := [.int 0]) hx hb hml hown hts hK hP hD hS hA hE hl.1 (c_X8_refused9 l G kk h b q 0) vl_X8_119 rfl rfl rfl ⟨Nat.le_of_ble_eq_true rfl, Nat.le_of_ble_eq_true rfl, rfl, rfl⟩ [0] rfl rfl ⟨Nat.zero_le _, Nat.zero_le _⟩ rfl (Nat.le_of_ble_eq_true rfl) dX8_leastLimit_18) hP hD hS hA [0] rfl ads1 (fun H locs hP hD hS => ?_)
    replace hP : va_P G vwCl ([(h, .inr (8, moF b (upd q 0 0))), ((b 1), .inl (kk 0, 120, .inl tx)), ((b 2), .inl (kk 0, 64, .inl f)), ((b 3), .inl (kk 0, 64, .inl ft)), ((b 4), .inl (kk 0, 896, .inl dy)), ((b 5), .inl (kk 0, 128, .inl kp)), ((b 6), .inl (kk 2, 2, .inl ik)), ((b 7), .inl (kk 0, 6, .inl jb))]) H := hP
    replace hD : va_D A ([(h, .inr (8, moF b (upd q 0 0))), ((b 1), .inl (kk 0, 120, .inl tx)), ((b 2), .inl (kk 0, 64, .inl f)), ((b 3), .inl (kk 0, 64, .inl ft)), ((b 4), .inl (kk 0, 896, .inl dy)), ((b 5), .inl (kk 0, 128, .inl kp)), ((b 6), .inl (kk 2, 2, .inl ik)), ((b 7), .inl (kk 0, 6, .inl jb))]) := hD
    refine top_eq (y := 0) (by decide) ?_
    refine lv_if_eq (tgt := 26) hx hb dX8_leastLimit_21 (by decide) (fun c_21 => ?_) (fun c_21 => absurd (by decide) c_21)
    obtain ⟨hx1, hx2⟩ := in_p (n := 60) c_10 rfl
    refine lv_iconst (v := 0) hx hb dX8_leastLimit_26 (by decide) ?_
    refine lv_istore_n (lv' := [(2, .int 0), (0, .ref h), (1, .int x)]) hx hb dX8_leastLimit_27 rfl hl (by decide) rfl (fun ls hl => ?_)
    have L_3 : ∀ (d : Nat) (i : Nat) (q1 : Nat → Int32) (jb1 : Nat → Int32) (ft1 : Nat → Int32) (hd : i + d = 100) (eS : sX8_leastLimit q tx f ft dy kp ik jb n x = lp_X8_leastLimit_28 q tx f ft dy kp ik jb n x d i q1 jb1 ft1) (H : Heap) (locs : List Loc) (ls : Array Slot) (hP : va_P G vwCl ([(h, .inr (8, moF b q1)), ((b 1), .inl (kk 0, 120, .inl tx)), ((b 2), .inl (kk 0, 64, .inl f)), ((b 3), .inl (kk 0, 64, .inl ft1)), ((b 4), .inl (kk 0, 896, .inl dy)), ((b 5), .inl (kk 0, 128, .inl kp)), ((b 6), .inl (kk 2, 2, .inl ik)), ((b 7), .inl (kk 0, 6, .inl jb1))]) H) (hD : va_D A ([(h, .inr (8, moF b q1)), ((b 1), .inl (kk 0, 120, .inl tx)), ((b 2), .inl (kk 0, 64, .inl f)), ((b 3), .inl (kk 0, 64, .inl ft1)), ((b 4), .inl (kk 0, 896, .inl dy)), ((b 5), .inl (kk 0, 128, .inl kp)), ((b 6), .inl (kk 2, 2, .inl ik)), ((b 7), .inl (kk 0, 6, .inl jb1))])) (hS : va_S A s.heap H locs) (hl : lv_has ls 3 [(0, .ref h), (1, .int x), (2, .int (nI (100 * i)))]), GO p l e (rmO 6 136) s m ([.ref h, .int x] : List Value).toArray below meth c A (QI G kk ([(h, .inr (8, moF b ((sX8_leastLimit q tx f ft dy kp ik jb n x).2.1))), ((b 1), .inl (kk 0, 120, .inl tx)), ((b 2), .inl (kk 0, 64, .inl f)), ((b 3), .inl (kk 0, 64, .inl ((sX8_leastLimit q tx f ft dy kp ik jb n x).2.2.1))), ((b 4), .inl (kk 0, 896, .inl dy)), ((b 5), .inl (kk 0, 128, .inl kp)), ((b 6), .inl (kk 2, 2, .inl ik)), ((b 7), .inl (kk 0, 6, .inl ((sX8_leastLimit q tx f ft dy kp ik jb n x).2.2.2)))]) ((sX8_leastLimit q tx f ft dy kp ik jb n x).1)) H locs (F0 m 28 ls []) := by
      intro d
      induction d with
      | zero =>
        intro i q1 jb1 ft1 hd eS H locs ls hP hD hS hl
        refine lv_iload_n hx hb dX8_leastLimit_28 rfl (lv_at hl 2 rfl) ?_
        refine lv_sipush (v := 9999) hx hb dX8_leastLimit_29 (by decide) ?_
        refine lv_icmp_ge (tgt := 89) hx hb dX8_leastLimit_32 (by decide) (fun c_32 => ?_) (fun c_32 => absurd (nI_le (a := 9999) (b := 100 * i) (by omega) (by omega)) c_32)
        refine lv_iconst (v := (-1)) hx hb dX8_leastLimit_89 (by decide) ?_
        exact fin_i hx hb hr hlocks hK (vP_eq (congrArg (fun z : Int32 × (Nat → Int32) × (Nat → Int32) × (Nat → Int32) => ([(h, .inr (8, moF b z.2.1)), ((b 1), .inl (kk 0, 120, .inl tx)), ((b 2), .inl (kk 0, 64, .inl f)), ((b 3), .inl (kk 0, 64, .inl z.2.2.1)), ((b 4), .inl (kk 0, 896, .inl dy)), ((b 5), .inl (kk 0, 128, .inl kp)), ((b 6), .inl (kk 2, 2, .inl ik)), ((b 7), .inl (kk 0, 6, .inl z.2.2.2))] : va_W)) eS.symm) hP) (vD_eq (congrArg (fun z : Int32 × (Nat → Int32) × (Nat → Int32) × (Nat → Int32) => ([(h, .inr (8, moF b z.2.1)), ((b 1), .inl (kk 0, 120, .inl tx)), ((b 2), .inl (kk 0, 64, .inl f)), ((b 3), .inl (kk 0, 64, .inl z.2.2.1)), ((b 4), .inl (kk 0, 896, .inl dy)), ((b 5), .inl (kk 0, 128, .inl kp)), ((b 6), .inl (kk 2, 2, .inl ik)), ((b 7), .inl (kk 0, 6, .inl z.2.2.2))] : va_W)) eS.symm) hD) hS (congrArg (fun z : Int32 × (Nat → Int32) × (Nat → Int32) × (Nat → Int32) => z.1) eS) dX8_leastLimit_90
      | succ d ih =>
        intro i q1 jb1 ft1 hd eS H locs ls hP hD hS hl
        refine lv_iload_n hx hb dX8_leastLimit_28 rfl (lv_at hl 2 rfl) ?_
        refine lv_sipush (v := 9999) hx hb dX8_leastLimit_29 (by decide) ?_
        refine lv_icmp_ge (tgt := 89) hx hb dX8_leastLimit_32 (by decide) (fun c_32 => absurd c_32 (nI_ge (a := 100 * i) (b := 9999) (by omega) (by omega))) (fun c_32 => ?_)
        refine lv_aload_n hx hb dX8_leastLimit_35 rfl (lv_at hl 0 rfl) ?_
        refine r_get (v := .ref (b 2)) hx hb hts hown hK hP fl_X8_13 0 rfl rfl dX8_leastLimit_36 ?_
        refine lv_iconst (v := 0) hx hb dX8_leastLimit_39 (by decide) ?_
        refine lv_aload_n hx hb dX8_leastLimit_40 rfl (lv_at hl 0 rfl) ?_
        refine r_get (v := .ref (b 3)) hx hb hts hown hK hP fl_X8_16 0 rfl rfl dX8_leastLimit_41 ?_
        refine lv_iconst (v := 0) hx hb dX8_leastLimit_44 (by decide) ?_
        refine k_goV (k_runS (rest := []) (As := [.ref (b 2), .int 0, .ref (b 3), .int 0]) hx hb hml hown hts hK hP hD hS hA hE hl.1 (c_X8_copyState l G kk (b 2) 0 (b 3) 0 64 64 f ft1 (by omega) (by omega) (by omega) (by omega)) sl_X8_175 ⟨Nat.le_of_ble_eq_true rfl, Nat.le_of_ble_eq_true rfl, rfl, rfl⟩ [2, 3] rfl rfl ⟨Nat.zero_le _, Nat.zero_le _⟩ rfl (Nat.le_of_ble_eq_true rfl) dX8_leastLimit_45) hP hD hS hA [2, 3] rfl ads2 (fun H locs hP hD hS => ?_)
        replace hP : va_P G vwCl ([(h, .inr (8, moF b q1)), ((b 1), .inl (kk 0, 120, .inl tx)), ((b 2), .inl (kk 0, 64, .inl f)), ((b 3), .inl (kk 0, 64, .inl (sX8_copyState 0 0 f ft1))), ((b 4), .inl (kk 0, 896, .inl dy)), ((b 5), .inl (kk 0, 128, .inl kp)), ((b 6), .inl (kk 2, 2, .inl ik)), ((b 7), .inl (kk 0, 6, .inl jb1))]) H := hP
        replace hD : va_D A ([(h, .inr (8, moF b q1)), ((b 1), .inl (kk 0, 120, .inl tx)), ((b 2), .inl (kk 0, 64, .inl f)), ((b 3), .inl (kk 0, 64, .inl (sX8_copyState 0 0 f ft1))), ((b 4), .inl (kk 0, 896, .inl dy)), ((b 5), .inl (kk 0, 128, .inl kp)), ((b 6), .inl (kk 2, 2, .inl ik)), ((b 7), .inl (kk 0, 6, .inl jb1))]) := hD
        have eS : sX8_leastLimit q tx f ft dy kp ik jb n x = (fun (z_1 : (Nat → Int32)) => ((fun (z_2 : Int32 × (Nat → Int32) × (Nat → Int32) × (Nat → Int32)) => (if (z_2.2.2.2 3) = (f 3) then ((nI (100 * i)), z_2.2.1, z_2.2.2.2, z_2.2.2.1) else (lp_X8_leastLimit_28 q tx f ft dy kp ik jb n x d (i + 1) z_2.2.1 z_2.2.2.1 z_2.2.2.2))) (sX8_runOn q1 jb1 (upd z_1 10 (nI (100 * i))) x n))) (sX8_copyState 0 0 f ft1) := eS
        have hz_1 := (cs_0 f ft1)
        generalize sX8_copyState 0 0 f ft1 = z_1 at hP hD eS hz_1 ⊢
        refine lv_aload_n hx hb dX8_leastLimit_48 rfl (lv_at hl 0 rfl) ?_
        refine r_get (v := .ref (b 3)) hx hb hts hown hK hP fl_X8_16 0 rfl rfl dX8_leastLimit_49 ?_
        refine lv_bipush (v := 10) hx hb dX8_leastLimit_52 (by decide) ?_
        refine lv_iload_n hx hb dX8_leastLimit_54 rfl (lv_at hl 2 rfl) ?_
        refine r_iast hx hb hK hP hD hS 3 rfl 10 rfl (by decide) (by decide) dX8_leastLimit_55 (fun H locs hP hD hS => ?_)
        replace hP : va_P G vwCl ([(h, .inr (8, moF b q1)), ((b 1), .inl (kk 0, 120, .inl tx)), ((b 2), .inl (kk 0, 64, .inl f)), ((b 3), .inl (kk 0, 64, .inl (upd z_1 10 (nI (100 * i))))), ((b 4), .inl (kk 0, 896, .inl dy)), ((b 5), .inl (kk 0, 128, .inl kp)), ((b 6), .inl (kk 2, 2, .inl ik)), ((b 7), .inl (kk 0, 6, .inl jb1))]) H := hP
        replace hD : va_D A ([(h, .inr (8, moF b q1)), ((b 1), .inl (kk 0, 120, .inl tx)), ((b 2), .inl (kk 0, 64, .inl f)), ((b 3), .inl (kk 0, 64, .inl (upd z_1 10 (nI (100 * i))))), ((b 4), .inl (kk 0, 896, .inl dy)), ((b 5), .inl (kk 0, 128, .inl kp)), ((b 6), .inl (kk 2, 2, .inl ik)), ((b 7), .inl (kk 0, 6, .inl jb1))]) := hD
        have hf : (upd z_1 10 (nI (100 * i))) 0 = nI n := (pk_un (by decide)).trans (hz_1.trans hn)
        refine lv_aload_n hx hb dX8_leastLimit_56 rfl (lv_at hl 0 rfl) ?_
        refine lv_aload_n hx hb dX8_leastLimit_57 rfl (lv_at hl 0 rfl) ?_
        refine r_get (v := .ref (b 3)) hx hb hts hown hK hP fl_X8_16 0 rfl rfl dX8_leastLimit_58 ?_
        refine lv_iload_n hx hb dX8_leastLimit_61 rfl (lv_at hl 1 rfl) ?_
        refine k_goI (k_runV (rest := []) (As := [.ref (b 3), .int x]) hx hb hml hown hts hK hP hD hS hA hE hl.1 (c_X8_runOn l G kk h b q1 jb1 (b 3) (upd z_1 10 (nI (100 * i))) x n hf h6 hx1) vl_X8_165 rfl rfl rfl ⟨Nat.le_of_ble_eq_true rfl, Nat.le_of_ble_eq_true rfl, rfl, rfl⟩ [0, 7, 3] rfl rfl ⟨Nat.zero_le _, Nat.zero_le _⟩ rfl (Nat.le_of_ble_eq_true rfl) dX8_leastLimit_62) hP hD hS hA [0, 7, 3] rfl ads3 (fun H locs hP hD hS => ?_)
        replace hP : va_P G vwCl ([(h, .inr (8, moF b ((sX8_runOn q1 jb1 (upd z_1 10 (nI (100 * i))) x n).2.1))), ((b 1), .inl (kk 0, 120, .inl tx)), ((b 2), .inl (kk 0, 64, .inl f)), ((b 3), .inl (kk 0, 64, .inl ((sX8_runOn q1 jb1 (upd z_1 10 (nI (100 * i))) x n).2.2.2))), ((b 4), .inl (kk 0, 896, .inl dy)), ((b 5), .inl (kk 0, 128, .inl kp)), ((b 6), .inl (kk 2, 2, .inl ik)), ((b 7), .inl (kk 0, 6, .inl ((sX8_runOn q1 jb1 (upd z_1 10 (nI (100 * i))) x n).2.2.1)))]) H := hP
        replace hD : va_D A ([(h, .inr (8, moF b ((sX8_runOn q1 jb1 (upd z_1 10 (nI (100 * i))) x n).2.1))), ((b 1), .inl (kk 0, 120, .inl tx)), ((b 2), .inl (kk 0, 64, .inl f)), ((b 3), .inl (kk 0, 64, .inl ((sX8_runOn q1 jb1 (upd z_1 10 (nI (100 * i))) x n).2.2.2))), ((b 4), .inl (kk 0, 896, .inl dy)), ((b 5), .inl (kk 0, 128, .inl kp)), ((b 6), .inl (kk 2, 2, .inl ik)), ((b 7), .inl (kk 0, 6, .inl ((sX8_runOn q1 jb1 (upd z_1 10 (nI (100 * i))) x n).2.2.1)))]) := hD
        have eS : sX8_leastLimit q tx f ft dy kp ik jb n x = (fun (z_2 : Int32 × (Nat → Int32) × (Nat → Int32) × (Nat → Int32)) => (if (z_2.2.2.2 3) = (f 3) then ((nI (100 * i)), z_2.2.1, z_2.2.2.2, z_2.2.2.1) else (lp_X8_leastLimit_28 q tx f ft dy kp ik jb n x d (i + 1) z_2.2.1 z_2.2.2.1 z_2.2.2.2))) (sX8_runOn q1 jb1 (upd z_1 10 (nI (100 * i))) x n) := eS
        have hz_2 := rn_0 h6 q1 jb1 (upd z_1 10 (nI (100 * i))) x
        generalize sX8_runOn q1 jb1 (upd z_1 10 (nI (100 * i))) x n = z_2 at hP hD eS hz_2 ⊢
        refine lv_pop hx hb dX8_leastLimit_65 rfl ?_
        refine lv_aload_n hx hb dX8_leastLimit_66 rfl (lv_at hl 0 rfl) ?_
        refine r_get (v := .ref (b 3)) hx hb hts hown hK hP fl_X8_16 0 rfl rfl dX8_leastLimit_67 ?_
        refine lv_iconst (v := 3) hx hb dX8_leastLimit_70 (by decide) ?_
        refine r_iald hx hb hK hP 3 rfl 3 rfl (by decide) (by decide) dX8_leastLimit_71 ?_
        refine lv_aload_n hx hb dX8_leastLimit_72 rfl (lv_at hl 0 rfl) ?_
        refine r_get (v := .ref (b 2)) hx hb hts hown hK hP fl_X8_13 0 rfl rfl dX8_leastLimit_73 ?_
        refine lv_iconst (v := 3) hx hb dX8_leastLimit_76 (by decide) ?_
        refine r_iald hx hb hK hP 2 rfl 3 rfl (by decide) (by decide) dX8_leastLimit_77 ?_
        refine lv_icmp_ne (tgt := 83) hx hb dX8_leastLimit_78 (by decide) (fun c_78 => ?_) (fun c_78 => ?_)
        · have eS := eS.trans (if_neg c_78)
          refine lv_iinc (v := (nI ((100 * i) + 100))) (lv' := [(2, .int (nI ((100 * i) + 100))), (0, .ref h), (1, .int x)]) hx hb dX8_leastLimit_83 hl (k := 2) rfl (nI_add (100 * i) 100) (by decide) rfl (fun ls hl => ?_)
          refine lv_goto (tgt := 28) hx hb dX8_leastLimit_86 (by decide) ?_
          exact ih (i + 1) z_2.2.1 z_2.2.2.1 z_2.2.2.2 (by omega) eS _ _ ls hP hD hS (lv_sub hl [1, 2, 0] rfl)
        · have eS := eS.trans (if_pos c_78)
          refine lv_iload_n hx hb dX8_leastLimit_81 rfl (lv_at hl 2 rfl) ?_
          exact fin_i hx hb hr hlocks hK (vP_eq (congrArg (fun z : Int32 × (Nat → Int32) × (Nat → Int32) × (Nat → Int32) => ([(h, .inr (8, moF b z.2.1)), ((b 1), .inl (kk 0, 120, .inl tx)), ((b 2), .inl (kk 0, 64, .inl f)), ((b 3), .inl (kk 0, 64, .inl z.2.2.1)), ((b 4), .inl (kk 0, 896, .inl dy)), ((b 5), .inl (kk 0, 128, .inl kp)), ((b 6), .inl (kk 2, 2, .inl ik)), ((b 7), .inl (kk 0, 6, .inl z.2.2.2))] : va_W)) eS.symm) hP) (vD_eq (congrArg (fun z : Int32 × (Nat → Int32) × (Nat → Int32) × (Nat → Int32) => ([(h, .inr (8, moF b z.2.1)), ((b 1), .inl (kk 0, 120, .inl tx)), ((b 2), .inl (kk 0, 64, .inl f)), ((b 3), .inl (kk 0, 64, .inl z.2.2.1)), ((b 4), .inl (kk 0, 896, .inl dy)), ((b 5), .inl (kk 0, 128, .inl kp)), ((b 6), .inl (kk 2, 2, .inl ik)), ((b 7), .inl (kk 0, 6, .inl z.2.2.2))] : va_W)) eS.symm) hD) hS (congrArg (fun z : Int32 × (Nat → Int32) × (Nat → Int32) × (Nat → Int32) => z.1) eS) dX8_leastLimit_82
    exact L_3 100 0 (upd q 0 0) jb ft (Nat.zero_add _) eS _ _ ls hP hD hS (lv_sub hl [1, 2, 0] rfl)
def lp_X8_bestShut_11 (q : Nat → Int32) (tx : Nat → Int32) (f : Nat → Int32) (ft : Nat → Int32) (dy : Nat → Int32) (kp : Nat → Int32) (ik : Nat → Int32) (jb : Nat → Int32) (n : Nat) : Nat → Nat → Option Nat → Int32 → (Nat → Int32) → (Nat → Int32) → (Nat → Int32) → Option Nat × (Nat → Int32) × (Nat → Int32) × (Nat → Int32)
  | 0, i, w, lo, q1, jb1, ft1 => (w, q1, ft1, jb1)
  | d + 1, i, w, lo, q1, jb1, ft1 => (if (sX8_of f i 4) = 1 then ((fun (z_1 : (Nat → Int32)) => ((fun (z_2 : (Nat → Int32)) => ((fun (z_3 : Int32 × (Nat → Int32) × (Nat → Int32) × (Nat → Int32)) => (oe w (lp_X8_bestShut_11 q tx f ft dy kp ik jb n d (i + 1) (some i) ((sX8_of z_3.2.2.2 i 3) - (sX8_of z_3.2.2.2 i 2)) z_3.2.1 z_3.2.2.1 z_3.2.2.2) (fun k_4 => (if lo ≤ ((sX8_of z_3.2.2.2 i 3) - (sX8_of z_3.2.2.2 i 2)) then (lp_X8_bestShut_11 q tx f ft dy kp ik jb n d (i + 1) (some k_4) lo z_3.2.1 z_3.2.2.1 z_3.2.2.2) else (lp_X8_bestShut_11 q tx f ft dy kp ik jb n d (i + 1) (some i) ((sX8_of z_3.2.2.2 i 3) - (sX8_of z_3.2.2.2 i 2)) z_3.2.1 z_3.2.2.1 z_3.2.2.2))))) (sX8_runOn q1 jb1 z_2 15 n))) (sX8_lay z_1 i 4 0))) (sX8_copyState 0 0 f ft1)) else (lp_X8_bestShut_11 q tx f ft dy kp ik jb n d (i + 1) w lo q1 jb1 ft1))
def sX8_bestShut (q : Nat → Int32) (tx : Nat → Int32) (f : Nat → Int32) (ft : Nat → Int32) (dy : Nat → Int32) (kp : Nat → Int32) (ik : Nat → Int32) (jb : Nat → Int32) (n : Nat) : Option Nat × (Nat → Int32) × (Nat → Int32) × (Nat → Int32) :=
  (lp_X8_bestShut_11 q tx f ft dy kp ik jb n n 0 none 0 (upd q 0 0) jb ft)
set_option maxRecDepth 100000 in
set_option maxHeartbeats 4000000 in
theorem c_X8_bestShut (l : Launch) (G : va_G) (kk : Nat → ClassId) (h : Nat) (b : Nat → Nat) (q : Nat → Int32) (tx : Nat → Int32) (f : Nat → Int32) (ft : Nat → Int32) (dy : Nat → Int32) (kp : Nat → Int32) (ik : Nat → Int32) (jb : Nat → Int32) (n : Nat) (hn : f 0 = nI n) (h6 : n ≤ 6) : CC l yX8_bestShut cX8_bestShut 6 (some .int) (rmO 6 136) [.ref h] G kk ([(h, .inr (8, moF b q)), ((b 1), .inl (kk 0, 120, .inl tx)), ((b 2), .inl (kk 0, 64, .inl f)), ((b 3), .inl (kk 0, 64, .inl ft)), ((b 4), .inl (kk 0, 896, .inl dy)), ((b 5), .inl (kk 0, 128, .inl kp)), ((b 6), .inl (kk 2, 2, .inl ik)), ((b 7), .inl (kk 0, 6, .inl jb))]) (QI G kk ([(h, .inr (8, moF b ((sX8_bestShut q tx f ft dy kp ik jb n).2.1))), ((b 1), .inl (kk 0, 120, .inl tx)), ((b 2), .inl (kk 0, 64, .inl f)), ((b 3), .inl (kk 0, 64, .inl ((sX8_bestShut q tx f ft dy kp ik jb n).2.2.1))), ((b 4), .inl (kk 0, 896, .inl dy)), ((b 5), .inl (kk 0, 128, .inl kp)), ((b 6), .inl (kk 2, 2, .inl ik)), ((b 7), .inl (kk 0, 6, .inl ((sX8_bestShut q tx f ft dy kp ik jb n).2.2.2)))]) (ob ((sX8_bestShut q tx f ft dy kp ik jb n).1))) := by
  refine cc_start (by decide +kernel) (Nat.le_of_ble_eq_true rfl) ?_
  intro p e s m below meth c A ls hx hb hr hml hown hts hlocks hA hE hK hP hD hS hl
  have hown : s.vm.findClass RX8 = some m.cls := hown
  have hl : lv_has ls 6 [(0, .ref h)] := hl
  have eS : sX8_bestShut q tx f ft dy kp ik jb n = sX8_bestShut q tx f ft dy kp ik jb n := rfl
  refine lv_aload_n hx hb dX8_bestShut_0 rfl (lv_at hl 0 rfl) ?_
  refine lv_iconst (v := 0) hx hb dX8_bestShut_1 (by decide) ?_
  refine r_put hx hb hts hown hK hP hD hS fl_X8_36 fw_8_0 0 rfl rfl rfl (Nat.le_of_ble_eq_true rfl) dX8_bestShut_2 (fun H locs hP hD hS => ?_)
  replace hP : va_P G vwCl ([(h, .inr (8, moF b (upd q 0 0))), ((b 1), .inl (kk 0, 120, .inl tx)), ((b 2), .inl (kk 0, 64, .inl f)), ((b 3), .inl (kk 0, 64, .inl ft)), ((b 4), .inl (kk 0, 896, .inl dy)), ((b 5), .inl (kk 0, 128, .inl kp)), ((b 6), .inl (kk 2, 2, .inl ik)), ((b 7), .inl (kk 0, 6, .inl jb))]) H := hP
  replace hD : va_D A ([(h, .inr (8, moF b (upd q 0 0))), ((b 1), .inl (kk 0, 120, .inl tx)), ((b 2), .inl (kk 0, 64, .inl f)), ((b 3), .inl (kk 0, 64, .inl ft)), ((b 4), .inl (kk 0, 896, .inl dy)), ((b 5), .inl (kk 0, 128, .inl kp)), ((b 6), .inl (kk 2, 2, .inl ik)), ((b 7), .inl (kk 0, 6, .inl jb))]) := hD
  refine lv_iconst (v := (-1)) hx hb dX8_bestShut_5 (by decide) ?_
  refine lv_istore_n (lv' := [(1, .int (-1)), (0, .ref h)]) hx hb dX8_bestShut_6 rfl hl (by decide) rfl (fun ls hl => ?_)
  refine lv_iconst (v := 0) hx hb dX8_bestShut_7 (by decide) ?_
  refine lv_istore_n (lv' := [(2, .int 0), (1, .int (-1)), (0, .ref h)]) hx hb dX8_bestShut_8 rfl hl (by decide) rfl (fun ls hl => ?_)
  refine lv_iconst (v := 0) hx hb dX8_bestShut_9 (by decide) ?_
  refine lv_istore_n (lv' := [(3, .int 0), (2, .int 0), (1, .int (-1)), (0, .ref h)]) hx hb dX8_bestShut_10 rfl hl (by decide) rfl (fun ls hl => ?_)
  have L_5 : ∀ (d : Nat) (i : Nat) (w : Option Nat) (lo : Int32) (q1 : Nat → Int32) (jb1 : Nat → Int32) (ft1 : Nat → Int32) (hd : i + d = n) (hw : ∀ k, w = some k → k < n) (eS : sX8_bestShut q tx f ft dy kp ik jb n = lp_X8_bestShut_11 q tx f ft dy kp ik jb n d i w lo q1 jb1 ft1) (H : Heap) (locs : List Loc) (ls : Array Slot) (hP : va_P G vwCl ([(h, .inr (8, moF b q1)), ((b 1), .inl (kk 0, 120, .inl tx)), ((b 2), .inl (kk 0, 64, .inl f)), ((b 3), .inl (kk 0, 64, .inl ft1)), ((b 4), .inl (kk 0, 896, .inl dy)), ((b 5), .inl (kk 0, 128, .inl kp)), ((b 6), .inl (kk 2, 2, .inl ik)), ((b 7), .inl (kk 0, 6, .inl jb1))]) H) (hD : va_D A ([(h, .inr (8, moF b q1)), ((b 1), .inl (kk 0, 120, .inl tx)), ((b 2), .inl (kk 0, 64, .inl f)), ((b 3), .inl (kk 0, 64, .inl ft1)), ((b 4), .inl (kk 0, 896, .inl dy)), ((b 5), .inl (kk 0, 128, .inl kp)), ((b 6), .inl (kk 2, 2, .inl ik)), ((b 7), .inl (kk 0, 6, .inl jb1))])) (hS : va_S A s.heap H locs) (hl : lv_has ls 6 [(0, .ref h), (3, .int (nI i)), (1, .int (ob w)), (2, .int lo)]), GO p l e (rmO 6 136) s m ([.ref h] : List Value).toArray below meth c A (QI G kk ([(h, .inr (8, moF b ((sX8_bestShut q tx f ft dy kp ik jb n).2.1))), ((b 1), .inl (kk 0, 120, .inl tx)), ((b 2), .inl (kk 0, 64, .inl f)), ((b 3), .inl (kk 0, 64, .inl ((sX8_bestShut q tx f ft dy kp ik jb n).2.2.1))), ((b 4), .inl (kk 0, 896, .inl dy)), ((b 5), .inl (kk 0, 128, .inl kp)), ((b 6), .inl (kk 2, 2, .inl ik)), ((b 7), .inl (kk 0, 6, .inl ((sX8_bestShut q tx f ft dy kp ik jb n).2.2.2)))]) (ob ((sX8_bestShut q tx f ft dy kp ik jb n).1))) H locs (F0 m 11 ls []) := by
    intro d
    induction d with
    | zero =>
      intro i w lo q1 jb1 ft1 hd hw eS H locs ls hP hD hS hl
      refine lv_iload_n hx hb dX8_bestShut_11 rfl (lv_at hl 1 rfl) ?_
      refine lv_aload_n hx hb dX8_bestShut_12 rfl (lv_at hl 0 rfl) ?_
      refine r_get (v := .ref (b 2)) hx hb hts hown hK hP fl_X8_13 0 rfl rfl dX8_bestShut_13 ?_
      refine lv_iconst (v := 0) hx hb dX8_bestShut_16 (by decide) ?_
      refine r_iald hx hb hK hP 2 rfl 0 rfl (by decide) (by decide) dX8_bestShut_17 ?_
      refine lv_icmp_ge (tgt := 136) hx hb dX8_bestShut_18 (by decide) (fun c_18 => ?_) (fun c_18 => absurd (fle hn (by omega) (by omega)) c_18)
      refine lv_iload_n hx hb dX8_bestShut_136 rfl (lv_at hl 2 rfl) ?_
      exact fin_i (v := (ob w)) hx hb hr hlocks hK (vP_eq (congrArg (fun z : Option Nat × (Nat → Int32) × (Nat → Int32) × (Nat → Int32) => ([(h, .inr (8, moF b z.2.1)), ((b 1), .inl (kk 0, 120, .inl tx)), ((b 2), .inl (kk 0, 64, .inl f)), ((b 3), .inl (kk 0, 64, .inl z.2.2.1)), ((b 4), .inl (kk 0, 896, .inl dy)), ((b 5), .inl (kk 0, 128, .inl kp)), ((b 6), .inl (kk 2, 2, .inl ik)), ((b 7), .inl (kk 0, 6, .inl z.2.2.2))] : va_W)) eS.symm) hP) (vD_eq (congrArg (fun z : Option Nat × (Nat → Int32) × (Nat → Int32) × (Nat → Int32) => ([(h, .inr (8, moF b z.2.1)), ((b 1), .inl (kk 0, 120, .inl tx)), ((b 2), .inl (kk 0, 64, .inl f)), ((b 3), .inl (kk 0, 64, .inl z.2.2.1)), ((b 4), .inl (kk 0, 896, .inl dy)), ((b 5), .inl (kk 0, 128, .inl kp)), ((b 6), .inl (kk 2, 2, .inl ik)), ((b 7), .inl (kk 0, 6, .inl z.2.2.2))] : va_W)) eS.symm) hD) hS (congrArg (fun z : Option Nat × (Nat → Int32) × (Nat → Int32) × (Nat → Int32) => (ob z.1)) eS) dX8_bestShut_137
    | succ d ih =>
      intro i w lo q1 jb1 ft1 hd hw eS H locs ls hP hD hS hl
      refine lv_iload_n hx hb dX8_bestShut_11 rfl (lv_at hl 1 rfl) ?_
      refine lv_aload_n hx hb dX8_bestShut_12 rfl (lv_at hl 0 rfl) ?_
      refine r_get (v := .ref (b 2)) hx hb hts hown hK hP fl_X8_13 0 rfl rfl dX8_bestShut_13 ?_
      refine lv_iconst (v := 0) hx hb dX8_bestShut_16 (by decide) ?_
      refine r_iald hx hb hK hP 2 rfl 0 rfl (by decide) (by decide) dX8_bestShut_17 ?_
      refine lv_icmp_ge (tgt := 136) hx hb dX8_bestShut_18 (by decide) (fun c_18 => absurd c_18 (fgt hn (by omega) (by omega))) (fun c_18 => ?_)
      refine lv_aload_n hx hb dX8_bestShut_21 rfl (lv_at hl 0 rfl) ?_
      refine r_get (v := .ref (b 2)) hx hb hts hown hK hP fl_X8_13 0 rfl rfl dX8_bestShut_22 ?_
      refine lv_iload_n hx hb dX8_bestShut_25 rfl (lv_at hl 1 rfl) ?_
      refine lv_iconst (v := 4) hx hb dX8_bestShut_26 (by decide) ?_
      refine k_goI (k_runS (rest := []) (As := [.ref (b 2), .int (nI i), .int 4]) hx hb hml hown hts hK hP hD hS hA hE hl.1 (c_X8_of l G kk (b 2) f i 4 (by omega)) sl_X8_44 ⟨Nat.le_of_ble_eq_true rfl, Nat.le_of_ble_eq_true rfl, rfl, rfl⟩ [2] rfl rfl ⟨Nat.zero_le _, Nat.zero_le _⟩ rfl (Nat.le_of_ble_eq_true rfl) dX8_bestShut_27) hP hD hS hA [2] rfl ads1 (fun H locs hP hD hS => ?_)
      replace hP : va_P G vwCl ([(h, .inr (8, moF b q1)), ((b 1), .inl (kk 0, 120, .inl tx)), ((b 2), .inl (kk 0, 64, .inl f)), ((b 3), .inl (kk 0, 64, .inl ft1)), ((b 4), .inl (kk 0, 896, .inl dy)), ((b 5), .inl (kk 0, 128, .inl kp)), ((b 6), .inl (kk 2, 2, .inl ik)), ((b 7), .inl (kk 0, 6, .inl jb1))]) H := hP
      replace hD : va_D A ([(h, .inr (8, moF b q1)), ((b 1), .inl (kk 0, 120, .inl tx)), ((b 2), .inl (kk 0, 64, .inl f)), ((b 3), .inl (kk 0, 64, .inl ft1)), ((b 4), .inl (kk 0, 896, .inl dy)), ((b 5), .inl (kk 0, 128, .inl kp)), ((b 6), .inl (kk 2, 2, .inl ik)), ((b 7), .inl (kk 0, 6, .inl jb1))]) := hD
      refine lv_iconst (v := 1) hx hb dX8_bestShut_30 (by decide) ?_
      refine lv_icmp_ne (tgt := 130) hx hb dX8_bestShut_31 (by decide) (fun c_31 => ?_) (fun c_31 => ?_)
      · have eS := eS.trans (if_neg c_31)
        refine lv_iinc (v := (nI (i + 1))) (lv' := [(3, .int (nI (i + 1))), (0, .ref h), (1, .int (ob w)), (2, .int lo)]) hx hb dX8_bestShut_130 hl (k := 1) rfl (nI_add i 1) (by decide) rfl (fun ls hl => ?_)
        refine lv_goto (tgt := 11) hx hb dX8_bestShut_133 (by decide) ?_
        exact ih (i + 1) w lo q1 jb1 ft1 (by omega) (by first | exact hw | (intro k h; cases h; omega)) eS _ _ ls hP hD hS (lv_sub hl [1, 0, 2, 3] rfl)
      · have eS := eS.trans (if_pos c_31)
        refine lv_aload_n hx hb dX8_bestShut_34 rfl (lv_at hl 0 rfl) ?_
        refine r_get (v := .ref (b 2)) hx hb hts hown hK hP fl_X8_13 0 rfl rfl dX8_bestShut_35 ?_
        refine lv_iconst (v := 0) hx hb dX8_bestShut_38 (by decide) ?_
        refine lv_aload_n hx hb dX8_bestShut_39 rfl (lv_at hl 0 rfl) ?_
        refine r_get (v := .ref (b 3)) hx hb hts hown hK hP fl_X8_16 0 rfl rfl dX8_bestShut_40 ?_
        refine lv_iconst (v := 0) hx hb dX8_bestShut_43 (by decide) ?_
        refine k_goV (k_runS (rest := []) (As := [.ref (b 2), .int 0, .ref (b 3), .int 0]) hx hb hml hown hts hK hP hD hS hA hE hl.1 (c_X8_copyState l G kk (b 2) 0 (b 3) 0 64 64 f ft1 (by omega) (by omega) (by omega) (by omega)) sl_X8_175 ⟨Nat.le_of_ble_eq_true rfl, Nat.le_of_ble_eq_true rfl, rfl, rfl⟩ [2, 3] rfl rfl ⟨Nat.zero_le _, Nat.zero_le _⟩ rfl (Nat.le_of_ble_eq_true rfl) dX8_bestShut_44) hP hD hS hA [2, 3] rfl ads2 (fun H locs hP hD hS => ?_)
        replace hP : va_P G vwCl ([(h, .inr (8, moF b q1)), ((b 1), .inl (kk 0, 120, .inl tx)), ((b 2), .inl (kk 0, 64, .inl f)), ((b 3), .inl (kk 0, 64, .inl (sX8_copyState 0 0 f ft1))), ((b 4), .inl (kk 0, 896, .inl dy)), ((b 5), .inl (kk 0, 128, .inl kp)), ((b 6), .inl (kk 2, 2, .inl ik)), ((b 7), .inl (kk 0, 6, .inl jb1))]) H := hP
        replace hD : va_D A ([(h, .inr (8, moF b q1)), ((b 1), .inl (kk 0, 120, .inl tx)), ((b 2), .inl (kk 0, 64, .inl f)), ((b 3), .inl (kk 0, 64, .inl (sX8_copyState 0 0 f ft1))), ((b 4), .inl (kk 0, 896, .inl dy)), ((b 5), .inl (kk 0, 128, .inl kp)), ((b 6), .inl (kk 2, 2, .inl ik)), ((b 7), .inl (kk 0, 6, .inl jb1))]) := hD
        have eS : sX8_bestShut q tx f ft dy kp ik jb n = (fun (z_1 : (Nat → Int32)) => ((fun (z_2 : (Nat → Int32)) => ((fun (z_3 : Int32 × (Nat → Int32) × (Nat → Int32) × (Nat → Int32)) => (oe w (lp_X8_bestShut_11 q tx f ft dy kp ik jb n d (i + 1) (some i) ((sX8_of z_3.2.2.2 i 3) - (sX8_of z_3.2.2.2 i 2)) z_3.2.1 z_3.2.2.1 z_3.2.2.2) (fun k_4 => (if lo ≤ ((sX8_of z_3.2.2.2 i 3) - (sX8_of z_3.2.2.2 i 2)) then (lp_X8_bestShut_11 q tx f ft dy kp ik jb n d (i + 1) (some k_4) lo z_3.2.1 z_3.2.2.1 z_3.2.2.2) else (lp_X8_bestShut_11 q tx f ft dy kp ik jb n d (i + 1) (some i) ((sX8_of z_3.2.2.2 i 3) - (sX8_of z_3.2.2.2 i 2)) z_3.2.1 z_3.2.2.1 z_3.2.2.2))))) (sX8_runOn q1 jb1 z_2 15 n))) (sX8_lay z_1 i 4 0))) (sX8_copyState 0 0 f ft1) := eS
        have hz_1 := (cs_0 f ft1)
        generalize sX8_copyState 0 0 f ft1 = z_1 at hP hD eS hz_1 ⊢
        have hf0 : z_1 0 = nI n := hz_1.trans hn
        refine lv_aload_n hx hb dX8_bestShut_47 rfl (lv_at hl 0 rfl) ?_
        refine r_get (v := .ref (b 3)) hx hb hts hown hK hP fl_X8_16 0 rfl rfl dX8_bestShut_48 ?_
        refine lv_iload_n hx hb dX8_bestShut_51 rfl (lv_at hl 1 rfl) ?_
        refine lv_iconst (v := 4) hx hb dX8_bestShut_52 (by decide) ?_
        refine lv_iconst (v := 0) hx hb dX8_bestShut_53 (by decide) ?_
        refine k_goV (k_runS (rest := []) (As := [.ref (b 3), .int (nI i), .int 4, .int 0]) hx hb hml hown hts hK hP hD hS hA hE hl.1 (c_X8_lay l G kk (b 3) z_1 i 4 0 (by omega)) sl_X8_79 ⟨Nat.le_of_ble_eq_true rfl, Nat.le_of_ble_eq_true rfl, rfl, rfl⟩ [3] rfl rfl ⟨Nat.zero_le _, Nat.zero_le _⟩ rfl (Nat.le_of_ble_eq_true rfl) dX8_bestShut_54) hP hD hS hA [3] rfl ads1 (fun H locs hP hD hS => ?_)
        replace hP : va_P G vwCl ([(h, .inr (8, moF b q1)), ((b 1), .inl (kk 0, 120, .inl tx)), ((b 2), .inl (kk 0, 64, .inl f)), ((b 3), .inl (kk 0, 64, .inl (sX8_lay z_1 i 4 0))), ((b 4), .inl (kk 0, 896, .inl dy)), ((b 5), .inl (kk 0, 128, .inl kp)), ((b 6), .inl (kk 2, 2, .inl ik)), ((b 7), .inl (kk 0, 6, .inl jb1))]) H := hP
        replace hD : va_D A ([(h, .inr (8, moF b q1)), ((b 1), .inl (kk 0, 120, .inl tx)), ((b 2), .inl (kk 0, 64, .inl f)), ((b 3), .inl (kk 0, 64, .inl (sX8_lay z_1 i 4 0))), ((b 4), .inl (kk 0, 896, .inl dy)), ((b 5), .inl (kk 0, 128, .inl kp)), ((b 6), .inl (kk 2, 2, .inl ik)), ((b 7), .inl (kk 0, 6, .inl jb1))]) := hD
        have eS : sX8_bestShut q tx f ft dy kp ik jb n = (fun (z_2 : (Nat → Int32)) => ((fun (z_3 : Int32 × (Nat → Int32) × (Nat → Int32) × (Nat → Int32)) => (oe w (lp_X8_bestShut_11 q tx f ft dy kp ik jb n d (i + 1) (some i) ((sX8_of z_3.2.2.2 i 3) - (sX8_of z_3.2.2.2 i 2)) z_3.2.1 z_3.2.2.1 z_3.2.2.2) (fun k_4 => (if lo ≤ ((sX8_of z_3.2.2.2 i 3) - (sX8_of z_3.2.2.2 i 2)) then (lp_X8_bestShut_11 q tx f ft dy kp ik jb n d (i + 1) (some k_4) lo z_3.2.1 z_3.2.2.1 z_3.2.2.2) else (lp_X8_bestShut_11 q tx f ft dy kp ik jb n d (i + 1) (some i) ((sX8_of z_3.2.2.2 i 3) - (sX8_of z_3.2.2.2 i 2)) z_3.2.1 z_3.2.2.1 z_3.2.2.2))))) (sX8_runOn q1 jb1 z_2 15 n))) (sX8_lay z_1 i 4 0) := eS
        have hz_2 := (lay_0 (f := z_1) (i := i) (w := 4) (v := 0))
        generalize sX8_lay z_1 i 4 0 = z_2 at hP hD eS hz_2 ⊢
        have hf : z_2 0 = nI n := hz_2.trans hf0
        refine lv_aload_n hx hb dX8_bestShut_57 rfl (lv_at hl 0 rfl) ?_
        refine lv_aload_n hx hb dX8_bestShut_58 rfl (lv_at hl 0 rfl) ?_
        refine r_get (v := .ref (b 3)) hx hb hts hown hK hP fl_X8_16 0 rfl rfl dX8_bestShut_59 ?_
        refine lv_bipush (v := 15) hx hb dX8_bestShut_62 (by decide) ?_
        refine k_goI (k_runV (rest := []) (As := [.ref (b 3), .int 15]) hx hb hml hown hts hK hP hD hS hA hE hl.1 (c_X8_runOn l G kk h b q1 jb1 (b 3) z_2 15 n hf h6 (by decide)) vl_X8_165 rfl rfl rfl ⟨Nat.le_of_ble_eq_true rfl, Nat.le_of_ble_eq_true rfl, rfl, rfl⟩ [0, 7, 3] rfl rfl ⟨Nat.zero_le _, Nat.zero_le _⟩ rfl (Nat.le_of_ble_eq_true rfl) dX8_bestShut_64) hP hD hS hA [0, 7, 3] rfl ads3 (fun H locs hP hD hS => ?_)
        replace hP : va_P G vwCl ([(h, .inr (8, moF b ((sX8_runOn q1 jb1 z_2 15 n).2.1))), ((b 1), .inl (kk 0, 120, .inl tx)), ((b 2), .inl (kk 0, 64, .inl f)), ((b 3), .inl (kk 0, 64, .inl ((sX8_runOn q1 jb1 z_2 15 n).2.2.2))), ((b 4), .inl (kk 0, 896, .inl dy)), ((b 5), .inl (kk 0, 128, .inl kp)), ((b 6), .inl (kk 2, 2, .inl ik)), ((b 7), .inl (kk 0, 6, .inl ((sX8_runOn q1 jb1 z_2 15 n).2.2.1)))]) H := hP
        replace hD : va_D A ([(h, .inr (8, moF b ((sX8_runOn q1 jb1 z_2 15 n).2.1))), ((b 1), .inl (kk 0, 120, .inl tx)), ((b 2), .inl (kk 0, 64, .inl f)), ((b 3), .inl (kk 0, 64, .inl ((sX8_runOn q1 jb1 z_2 15 n).2.2.2))), ((b 4), .inl (kk 0, 896, .inl dy)), ((b 5), .inl (kk 0, 128, .inl kp)), ((b 6), .inl (kk 2, 2, .inl ik)), ((b 7), .inl (kk 0, 6, .inl ((sX8_runOn q1 jb1 z_2 15 n).2.2.1)))]) := hD
        have eS : sX8_bestShut q tx f ft dy kp ik jb n = (fun (z_3 : Int32 × (Nat → Int32) × (Nat → Int32) × (Nat → Int32)) => (oe w (lp_X8_bestShut_11 q tx f ft dy kp ik jb n d (i + 1) (some i) ((sX8_of z_3.2.2.2 i 3) - (sX8_of z_3.2.2.2 i 2)) z_3.2.1 z_3.2.2.1 z_3.2.2.2) (fun k_4 => (if lo ≤ ((sX8_of z_3.2.2.2 i 3) - (sX8_of z_3.2.2.2 i 2)) then (lp_X8_bestShut_11 q tx f ft dy kp ik jb n d (i + 1) (some k_4) lo z_3.2.1 z_3.2.2.1 z_3.2.2.2) else (lp_X8_bestShut_11 q tx f ft dy kp ik jb n d (i + 1) (some i) ((sX8_of z_3.2.2.2 i 3) - (sX8_of z_3.2.2.2 i 2)) z_3.2.1 z_3.2.2.1 z_3.2.2.2))))) (sX8_runOn q1 jb1 z_2 15 n) := eS
        have hz_3 := rn_0 h6 q1 jb1 z_2 15
        generalize sX8_runOn q1 jb1 z_2 15 n = z_3 at hP hD eS hz_3 ⊢
        refine lv_pop hx hb dX8_bestShut_67 rfl ?_
        refine lv_aload_n hx hb dX8_bestShut_68 rfl (lv_at hl 0 rfl) ?_
        refine r_get (v := .ref (b 3)) hx hb hts hown hK hP fl_X8_16 0 rfl rfl dX8_bestShut_69 ?_
        refine lv_iload_n hx hb dX8_bestShut_72 rfl (lv_at hl 1 rfl) ?_
        refine lv_iconst (v := 3) hx hb dX8_bestShut_73 (by decide) ?_
        refine k_goI (k_runS (rest := []) (As := [.ref (b 3), .int (nI i), .int 3]) hx hb hml hown hts hK hP hD hS hA hE hl.1 (c_X8_of l G kk (b 3) z_3.2.2.2 i 3 (by omega)) sl_X8_44 ⟨Nat.le_of_ble_eq_true rfl, Nat.le_of_ble_eq_true rfl, rfl, rfl⟩ [3] rfl rfl ⟨Nat.zero_le _, Nat.zero_le _⟩ rfl (Nat.le_of_ble_eq_true rfl) dX8_bestShut_74) hP hD hS hA [3] rfl ads1 (fun H locs hP hD hS => ?_)
        replace hP : va_P G vwCl ([(h, .inr (8, moF b z_3.2.1)), ((b 1), .inl (kk 0, 120, .inl tx)), ((b 2), .inl (kk 0, 64, .inl f)), ((b 3), .inl (kk 0, 64, .inl z_3.2.2.2)), ((b 4), .inl (kk 0, 896, .inl dy)), ((b 5), .inl (kk 0, 128, .inl kp)), ((b 6), .inl (kk 2, 2, .inl ik)), ((b 7), .inl (kk 0, 6, .inl z_3.2.2.1))]) H := hP
        replace hD : va_D A ([(h, .inr (8, moF b z_3.2.1)), ((b 1), .inl (kk 0, 120, .inl tx)), ((b 2), .inl (kk 0, 64, .inl f)), ((b 3), .inl (kk 0, 64, .inl z_3.2.2.2)), ((b 4), .inl (kk 0, 896, .inl dy)), ((b 5), .inl (kk 0, 128, .inl kp)), ((b 6), .inl (kk 2, 2, .inl ik)), ((b 7), .inl (kk 0, 6, .inl z_3.2.2.1))]) := hD
        refine lv_aload_n hx hb dX8_bestShut_77 rfl (lv_at hl 0 rfl) ?_
        refine r_get (v := .ref (b 3)) hx hb hts hown hK hP fl_X8_16 0 rfl rfl dX8_bestShut_78 ?_
        refine lv_iload_n hx hb dX8_bestShut_81 rfl (lv_at hl 1 rfl) ?_
        refine lv_iconst (v := 2) hx hb dX8_bestShut_82 (by decide) ?_
        refine k_goI (k_runS (rest := [.int (sX8_of z_3.2.2.2 i 3)]) (As := [.ref (b 3), .int (nI i), .int 2]) hx hb hml hown hts hK hP hD hS hA hE hl.1 (c_X8_of l G kk (b 3) z_3.2.2.2 i 2 (by omega)) sl_X8_44 ⟨Nat.le_of_ble_eq_true rfl, Nat.le_of_ble_eq_true rfl, rfl, rfl⟩ [3] rfl rfl ⟨Nat.zero_le _, Nat.zero_le _⟩ rfl (Nat.le_of_ble_eq_true rfl) dX8_bestShut_83) hP hD hS hA [3] rfl ads1 (fun H locs hP hD hS => ?_)
        replace hP : va_P G vwCl ([(h, .inr (8, moF b z_3.2.1)), ((b 1), .inl (kk 0, 120, .inl tx)), ((b 2), .inl (kk 0, 64, .inl f)), ((b 3), .inl (kk 0, 64, .inl z_3.2.2.2)), ((b 4), .inl (kk 0, 896, .inl dy)), ((b 5), .inl (kk 0, 128, .inl kp)), ((b 6), .inl (kk 2, 2, .inl ik)), ((b 7), .inl (kk 0, 6, .inl z_3.2.2.1))]) H := hP
        replace hD : va_D A ([(h, .inr (8, moF b z_3.2.1)), ((b 1), .inl (kk 0, 120, .inl tx)), ((b 2), .inl (kk 0, 64, .inl f)), ((b 3), .inl (kk 0, 64, .inl z_3.2.2.2)), ((b 4), .inl (kk 0, 896, .inl dy)), ((b 5), .inl (kk 0, 128, .inl kp)), ((b 6), .inl (kk 2, 2, .inl ik)), ((b 7), .inl (kk 0, 6, .inl z_3.2.2.1))]) := hD
        refine lv_isub hx hb dX8_bestShut_86 ?_
        refine lv_istore (lv' := [(4, .int ((sX8_of z_3.2.2.2 i 3) - (sX8_of z_3.2.2.2 i 2))), (0, .ref h), (3, .int (nI i)), (1, .int (ob w)), (2, .int lo)]) hx hb dX8_bestShut_87 hl (by decide) rfl (fun ls hl => ?_)
        rcases opt_or w with rfl | ⟨k_4, rfl⟩
        · have hl : lv_has ls 6 [(4, .int ((sX8_of z_3.2.2.2 i 3) - (sX8_of z_3.2.2.2 i 2))), (0, .ref h), (3, .int (nI i)), (1, .int (-1)), (2, .int lo)] := hl
          have eS := eS.trans (oe_n rfl)
          refine lv_iload_n hx hb dX8_bestShut_89 rfl (lv_at hl 3 rfl) ?_
          refine lv_iconst (v := (-1)) hx hb dX8_bestShut_90 (by decide) ?_
          refine lv_icmp_eq (tgt := 100) hx hb dX8_bestShut_91 (by decide) (fun c_91 => ?_) (fun c_91 => absurd (by decide) c_91)
          refine lv_iconst (v := 1) hx hb dX8_bestShut_100 (by decide) ?_
          refine lv_goto (tgt := 105) hx hb dX8_bestShut_101 (by decide) ?_
          refine lv_istore (lv' := [(5, .int 1), (4, .int ((sX8_of z_3.2.2.2 i 3) - (sX8_of z_3.2.2.2 i 2))), (0, .ref h), (3, .int (nI i)), (1, .int (-1)), (2, .int lo)]) hx hb dX8_bestShut_105 hl (by decide) rfl (fun ls hl => ?_)
          refine lv_iload hx hb dX8_bestShut_107 (lv_at hl 0 rfl) ?_
          refine lv_if_eq (tgt := 116) hx hb dX8_bestShut_109 (by decide) (fun c_109 => absurd c_109 (by decide)) (fun c_109 => ?_)
          refine lv_iload_n hx hb dX8_bestShut_112 rfl (lv_at hl 3 rfl) ?_
          refine lv_goto (tgt := 117) hx hb dX8_bestShut_113 (by decide) ?_
          refine lv_istore_n (lv' := [(1, .int (nI i)), (5, .int 1), (4, .int ((sX8_of z_3.2.2.2 i 3) - (sX8_of z_3.2.2.2 i 2))), (0, .ref h), (3, .int (nI i)), (2, .int lo)]) hx hb dX8_bestShut_117 rfl hl (by decide) rfl (fun ls hl => ?_)
          refine lv_iload hx hb dX8_bestShut_118 (lv_at hl 1 rfl) ?_
          refine lv_if_eq (tgt := 128) hx hb dX8_bestShut_120 (by decide) (fun c_120 => absurd c_120 (by decide)) (fun c_120 => ?_)
          refine lv_iload hx hb dX8_bestShut_123 (lv_at hl 2 rfl) ?_
          refine lv_goto (tgt := 129) hx hb dX8_bestShut_125 (by decide) ?_
          refine lv_istore_n (lv' := [(2, .int ((sX8_of z_3.2.2.2 i 3) - (sX8_of z_3.2.2.2 i 2))), (1, .int (nI i)), (5, .int 1), (4, .int ((sX8_of z_3.2.2.2 i 3) - (sX8_of z_3.2.2.2 i 2))), (0, .ref h), (3, .int (nI i))]) hx hb dX8_bestShut_129 rfl hl (by decide) rfl (fun ls hl => ?_)
          refine lv_iinc (v := (nI (i + 1))) (lv' := [(3, .int (nI (i + 1))), (2, .int ((sX8_of z_3.2.2.2 i 3) - (sX8_of z_3.2.2.2 i 2))), (1, .int (nI i)), (5, .int 1), (4, .int ((sX8_of z_3.2.2.2 i 3) - (sX8_of z_3.2.2.2 i 2))), (0, .ref h)]) hx hb dX8_bestShut_130 hl (k := 5) rfl (nI_add i 1) (by decide) rfl (fun ls hl => ?_)
          refine lv_goto (tgt := 11) hx hb dX8_bestShut_133 (by decide) ?_
          exact ih (i + 1) (some i) ((sX8_of z_3.2.2.2 i 3) - (sX8_of z_3.2.2.2 i 2)) z_3.2.1 z_3.2.2.1 z_3.2.2.2 (by omega) (by first | exact hw | (intro k h; cases h; omega)) eS _ _ ls hP hD hS (lv_sub hl [5, 0, 2, 1] rfl)
        · have hl : lv_has ls 6 [(4, .int ((sX8_of z_3.2.2.2 i 3) - (sX8_of z_3.2.2.2 i 2))), (0, .ref h), (3, .int (nI i)), (1, .int (nI k_4)), (2, .int lo)] := hl
          have hk_4 := hw k_4 rfl
          have eS := eS.trans (oe_s rfl)
          refine lv_iload_n hx hb dX8_bestShut_89 rfl (lv_at hl 3 rfl) ?_
          refine lv_iconst (v := (-1)) hx hb dX8_bestShut_90 (by decide) ?_
          refine lv_icmp_eq (tgt := 100) hx hb dX8_bestShut_91 (by decide) (fun c_91 => absurd c_91 (nI_nm1 (by omega))) (fun c_91 => ?_)
          refine lv_iload hx hb dX8_bestShut_94 (lv_at hl 0 rfl) ?_
          refine lv_iload_n hx hb dX8_bestShut_96 rfl (lv_at hl 4 rfl) ?_
          refine lv_icmp_ge (tgt := 104) hx hb dX8_bestShut_97 (by decide) (fun c_97 => ?_) (fun c_97 => ?_)
          · have eS := eS.trans (if_pos c_97)
            refine lv_iconst (v := 0) hx hb dX8_bestShut_104 (by decide) ?_
            refine lv_istore (lv' := [(5, .int 0), (4, .int ((sX8_of z_3.2.2.2 i 3) - (sX8_of z_3.2.2.2 i 2))), (0, .ref h), (3, .int (nI i)), (1, .int (nI k_4)), (2, .int lo)]) hx hb dX8_bestShut_105 hl (by decide) rfl (fun ls hl => ?_)
            refine lv_iload hx hb dX8_bestShut_107 (lv_at hl 0 rfl) ?_
            refine lv_if_eq (tgt := 116) hx hb dX8_bestShut_109 (by decide) (fun c_109 => ?_) (fun c_109 => absurd (by decide) c_109)
            refine lv_iload_n hx hb dX8_bestShut_116 rfl (lv_at hl 4 rfl) ?_
            refine lv_istore_n (lv' := [(1, .int (nI k_4)), (5, .int 0), (4, .int ((sX8_of z_3.2.2.2 i 3) - (sX8_of z_3.2.2.2 i 2))), (0, .ref h), (3, .int (nI i)), (2, .int lo)]) hx hb dX8_bestShut_117 rfl hl (by decide) rfl (fun ls hl => ?_)
            refine lv_iload hx hb dX8_bestShut_118 (lv_at hl 1 rfl) ?_
            refine lv_if_eq (tgt := 128) hx hb dX8_bestShut_120 (by decide) (fun c_120 => ?_) (fun c_120 => absurd (by decide) c_120)
            refine lv_iload_n hx hb dX8_bestShut_128 rfl (lv_at hl 5 rfl) ?_
            refine lv_istore_n (lv' := [(2, .int lo), (1, .int (nI k_4)), (5, .int 0), (4, .int ((sX8_of z_3.2.2.2 i 3) - (sX8_of z_3.2.2.2 i 2))), (0, .ref h), (3, .int (nI i))]) hx hb dX8_bestShut_129 rfl hl (by decide) rfl (fun ls hl => ?_)
            refine lv_iinc (v := (nI (i + 1))) (lv' := [(3, .int (nI (i + 1))), (2, .int lo), (1, .int (nI k_4)), (5, .int 0), (4, .int ((sX8_of z_3.2.2.2 i 3) - (sX8_of z_3.2.2.2 i 2))), (0, .ref h)]) hx hb dX8_bestShut_130 hl (k := 5) rfl (nI_add i 1) (by decide) rfl (fun ls hl => ?_)
            refine lv_goto (tgt := 11) hx hb dX8_bestShut_133 (by decide) ?_
            exact ih (i + 1) (some k_4) lo z_3.2.1 z_3.2.2.1 z_3.2.2.2 (by omega) (by first | exact hw | (intro k h; cases h; omega)) eS _ _ ls hP hD hS (lv_sub hl [5, 0, 2, 1] rfl)
          · have eS := eS.trans (if_neg c_97)
            refine lv_iconst (v := 1) hx hb dX8_bestShut_100 (by decide) ?_
            refine lv_goto (tgt := 105) hx hb dX8_bestShut_101 (by decide) ?_
            refine lv_istore (lv' := [(5, .int 1), (4, .int ((sX8_of z_3.2.2.2 i 3) - (sX8_of z_3.2.2.2 i 2))), (0, .ref h), (3, .int (nI i)), (1, .int (nI k_4)), (2, .int lo)]) hx hb dX8_bestShut_105 hl (by decide) rfl (fun ls hl => ?_)
            refine lv_iload hx hb dX8_bestShut_107 (lv_at hl 0 rfl) ?_
            refine lv_if_eq (tgt := 116) hx hb dX8_bestShut_109 (by decide) (fun c_109 => absurd c_109 (by decide)) (fun c_109 => ?_)
            refine lv_iload_n hx hb dX8_bestShut_112 rfl (lv_at hl 3 rfl) ?_
            refine lv_goto (tgt := 117) hx hb dX8_bestShut_113 (by decide) ?_
            refine lv_istore_n (lv' := [(1, .int (nI i)), (5, .int 1), (4, .int ((sX8_of z_3.2.2.2 i 3) - (sX8_of z_3.2.2.2 i 2))), (0, .ref h), (3, .int (nI i)), (2, .int lo)]) hx hb dX8_bestShut_117 rfl hl (by decide) rfl (fun ls hl => ?_)
            refine lv_iload hx hb dX8_bestShut_118 (lv_at hl 1 rfl) ?_
            refine lv_if_eq (tgt := 128) hx hb dX8_bestShut_120 (by decide) (fun c_120 => absurd c_120 (by decide)) (fun c_120 => ?_)
            refine lv_iload hx hb dX8_bestShut_123 (lv_at hl 2 rfl) ?_
            refine lv_goto (tgt := 129) hx hb dX8_bestShut_125 (by decide) ?_
            refine lv_istore_n (lv' := [(2, .int ((sX8_of z_3.2.2.2 i 3) - (sX8_of z_3.2.2.2 i 2))), (1, .int (nI i)), (5, .int 1), (4, .int ((sX8_of z_3.2.2.2 i 3) - (sX8_of z_3.2.2.2 i 2))), (0, .ref h), (3, .int (nI i))]) hx hb dX8_bestShut_129 rfl hl (by decide) rfl (fun ls hl => ?_)
            refine lv_iinc (v := (nI (i + 1))) (lv' := [(3, .int (nI (i + 1))), (2, .int ((sX8_of z_3.2.2.2 i 3) - (sX8_of z_3.2.2.2 i 2))), (1, .int (nI i)), (5, .int 1), (4, .int ((sX8_of z_3.2.2.2 i 3) - (sX8_of z_3.2.2.2 i 2))), (0, .ref h)]) hx hb dX8_bestShut_130 hl (k := 5) rfl (nI_add i 1) (by decide) rfl (fun ls hl => ?_)
            refine lv_goto (tgt := 11) hx hb dX8_bestShut_133 (by decide) ?_
            exact ih (i + 1) (some i) ((sX8_of z_3.2.2.2 i 3) - (sX8_of z_3.2.2.2 i 2)) z_3.2.1 z_3.2.2.1 z_3.2.2.2 (by omega) (by first | exact hw | (intro k h; cases h; omega)) eS _ _ ls hP hD hS (lv_sub hl [5, 0, 2, 1] rfl)
  exact L_5 n 0 none 0 (upd q 0 0) jb ft (Nat.zero_add _) (fun k h => by cases h) eS _ _ ls hP hD hS (lv_sub hl [3, 0, 2, 1] rfl)
def sX8_doesIt_z_1 (q : Nat → Int32) (tx : Nat → Int32) (f : Nat → Int32) (ft : Nat → Int32) (dy : Nat → Int32) (kp : Nat → Int32) (ik : Nat → Int32) (jb : Nat → Int32) (n : Nat) (i : Nat) (w : Int32) (z_1 : (Nat → Int32) × (Nat → Int32)) : Int32 × (Nat → Int32) × (Nat → Int32) :=
  (if (z_1.2 i) = w then (1, z_1.1, z_1.2) else (0, z_1.1, z_1.2))
def sX8_doesIt (q : Nat → Int32) (tx : Nat → Int32) (f : Nat → Int32) (ft : Nat → Int32) (dy : Nat → Int32) (kp : Nat → Int32) (ik : Nat → Int32) (jb : Nat → Int32) (n : Nat) (i : Nat) (w : Int32) : Int32 × (Nat → Int32) × (Nat → Int32) :=
  (sX8_doesIt_z_1 q tx f ft dy kp ik jb n i w (sX8_find q jb ft n))
set_option maxRecDepth 100000 in
set_option maxHeartbeats 4000000 in
theorem c_X8_doesIt (l : Launch) (G : va_G) (kk : Nat → ClassId) (h : Nat) (b : Nat → Nat) (q : Nat → Int32) (tx : Nat → Int32) (f : Nat → Int32) (ft : Nat → Int32) (dy : Nat → Int32) (kp : Nat → Int32) (ik : Nat → Int32) (jb : Nat → Int32) (n : Nat) (i : Nat) (w : Int32) (hn : ft 0 = nI n) (h6 : n ≤ 6) (hi : i < 6) : CC l yX8_doesIt cX8_doesIt 3 (some .boolean) (rmO 4 90) [.ref h, .int (nI i), .int w] G kk ([(h, .inr (8, moF b q)), ((b 1), .inl (kk 0, 120, .inl tx)), ((b 2), .inl (kk 0, 64, .inl f)), ((b 3), .inl (kk 0, 64, .inl ft)), ((b 4), .inl (kk 0, 896, .inl dy)), ((b 5), .inl (kk 0, 128, .inl kp)), ((b 6), .inl (kk 2, 2, .inl ik)), ((b 7), .inl (kk 0, 6, .inl jb))]) (QI G kk ([(h, .inr (8, moF b ((sX8_doesIt q tx f ft dy kp ik jb n i w).2.1))), ((b 1), .inl (kk 0, 120, .inl tx)), ((b 2), .inl (kk 0, 64, .inl f)), ((b 3), .inl (kk 0, 64, .inl ft)), ((b 4), .inl (kk 0, 896, .inl dy)), ((b 5), .inl (kk 0, 128, .inl kp)), ((b 6), .inl (kk 2, 2, .inl ik)), ((b 7), .inl (kk 0, 6, .inl ((sX8_doesIt q tx f ft dy kp ik jb n i w).2.2)))]) ((sX8_doesIt q tx f ft dy kp ik jb n i w).1)) := by
  refine cc_start (by decide +kernel) (Nat.le_of_ble_eq_true rfl) ?_
  intro p e s m below meth c A ls hx hb hr hml hown hts hlocks hA hE hK hP hD hS hl
  have hown : s.vm.findClass RX8 = some m.cls := hown
  have hl : lv_has ls 3 [(0, .ref h), (1, .int (nI i)), (2, .int w)] := hl
  have eS : sX8_doesIt q tx f ft dy kp ik jb n i w = sX8_doesIt q tx f ft dy kp ik jb n i w := rfl
  refine lv_aload_n hx hb dX8_doesIt_0 rfl (lv_at hl 0 rfl) ?_
  refine lv_aload_n hx hb dX8_doesIt_1 rfl (lv_at hl 0 rfl) ?_
  refine r_get (v := .ref (b 3)) hx hb hts hown hK hP fl_X8_16 0 rfl rfl dX8_doesIt_2 ?_
  refine k_goV (k_runV (rest := []) (As := [.ref (b 3)]) hx hb hml hown hts hK hP hD hS hA hE hl.1 (c_X8_find l G kk h b q jb (b 3) ft n hn h6) vl_X8_83 rfl rfl rfl ⟨Nat.le_of_ble_eq_true rfl, Nat.le_of_ble_eq_true rfl, rfl, rfl⟩ [0, 7, 3] rfl rfl ⟨Nat.zero_le _, Nat.zero_le _⟩ rfl (Nat.le_of_ble_eq_true rfl) dX8_doesIt_5) hP hD hS hA [0, 7, 3] rfl ads3 (fun H locs hP hD hS => ?_)
  replace hP : va_P G vwCl ([(h, .inr (8, moF b ((sX8_find q jb ft n).1))), ((b 1), .inl (kk 0, 120, .inl tx)), ((b 2), .inl (kk 0, 64, .inl f)), ((b 3), .inl (kk 0, 64, .inl ft)), ((b 4), .inl (kk 0, 896, .inl dy)), ((b 5), .inl (kk 0, 128, .inl kp)), ((b 6), .inl (kk 2, 2, .inl ik)), ((b 7), .inl (kk 0, 6, .inl ((sX8_find q jb ft n).2)))]) H := hP
  replace hD : va_D A ([(h, .inr (8, moF b ((sX8_find q jb ft n).1))), ((b 1), .inl (kk 0, 120, .inl tx)), ((b 2), .inl (kk 0, 64, .inl f)), ((b 3), .inl (kk 0, 64, .inl ft)), ((b 4), .inl (kk 0, 896, .inl dy)), ((b 5), .inl (kk 0, 128, .inl kp)), ((b 6), .inl (kk 2, 2, .inl ik)), ((b 7), .inl (kk 0, 6, .inl ((sX8_find q jb ft n).2)))]) := hD
  have eS : sX8_doesIt q tx f ft dy kp ik jb n i w = sX8_doesIt_z_1 q tx f ft dy kp ik jb n i w (sX8_find q jb ft n) := eS
  generalize sX8_find q jb ft n = z_1 at hP hD eS ⊢
  refine lv_aload_n hx hb dX8_doesIt_8 rfl (lv_at hl 0 rfl) ?_
  refine r_get (v := .ref (b 7)) hx hb hts hown hK hP fl_X8_29 0 rfl rfl dX8_doesIt_9 ?_
  refine lv_iload_n hx hb dX8_doesIt_12 rfl (lv_at hl 1 rfl) ?_
  refine r_iald hx hb hK hP 7 rfl i rfl (by omega) (by decide) dX8_doesIt_13 ?_
  refine lv_iload_n hx hb dX8_doesIt_14 rfl (lv_at hl 2 rfl) ?_
  refine lv_icmp_ne (tgt := 22) hx hb dX8_doesIt_15 (by decide) (fun c_15 => ?_) (fun c_15 => ?_)
  · have eS := eS.trans (if_neg c_15)
    refine lv_iconst (v := 0) hx hb dX8_doesIt_22 (by decide) ?_
    exact fin_z hx hb hr hlocks hK (vP_eq (congrArg (fun z : Int32 × (Nat → Int32) × (Nat → Int32) => ([(h, .inr (8, moF b z.2.1)), ((b 1), .inl (kk 0, 120, .inl tx)), ((b 2), .inl (kk 0, 64, .inl f)), ((b 3), .inl (kk 0, 64, .inl ft)), ((b 4), .inl (kk 0, 896, .inl dy)), ((b 5), .inl (kk 0, 128, .inl kp)), ((b 6), .inl (kk 2, 2, .inl ik)), ((b 7), .inl (kk 0, 6, .inl z.2.2))] : va_W)) eS.symm) hP) (vD_eq (congrArg (fun z : Int32 × (Nat → Int32) × (Nat → Int32) => ([(h, .inr (8, moF b z.2.1)), ((b 1), .inl (kk 0, 120, .inl tx)), ((b 2), .inl (kk 0, 64, .inl f)), ((b 3), .inl (kk 0, 64, .inl ft)), ((b 4), .inl (kk 0, 896, .inl dy)), ((b 5), .inl (kk 0, 128, .inl kp)), ((b 6), .inl (kk 2, 2, .inl ik)), ((b 7), .inl (kk 0, 6, .inl z.2.2))] : va_W)) eS.symm) hD) hS (congrArg (fun z : Int32 × (Nat → Int32) × (Nat → Int32) => z.1) eS) rfl dX8_doesIt_23
  · have eS := eS.trans (if_pos c_15)
    refine lv_iconst (v := 1) hx hb dX8_doesIt_18 (by decide) ?_
    refine lv_goto (tgt := 23) hx hb dX8_doesIt_19 (by decide) ?_
    exact fin_z hx hb hr hlocks hK (vP_eq (congrArg (fun z : Int32 × (Nat → Int32) × (Nat → Int32) => ([(h, .inr (8, moF b z.2.1)), ((b 1), .inl (kk 0, 120, .inl tx)), ((b 2), .inl (kk 0, 64, .inl f)), ((b 3), .inl (kk 0, 64, .inl ft)), ((b 4), .inl (kk 0, 896, .inl dy)), ((b 5), .inl (kk 0, 128, .inl kp)), ((b 6), .inl (kk 2, 2, .inl ik)), ((b 7), .inl (kk 0, 6, .inl z.2.2))] : va_W)) eS.symm) hP) (vD_eq (congrArg (fun z : Int32 × (Nat → Int32) × (Nat → Int32) => ([(h, .inr (8, moF b z.2.1)), ((b 1), .inl (kk 0, 120, .inl tx)), ((b 2), .inl (kk 0, 64, .inl f)), ((b 3), .inl (kk 0, 64, .inl ft)), ((b 4), .inl (kk 0, 896, .inl dy)), ((b 5), .inl (kk 0, 128, .inl kp)), ((b 6), .inl (kk 2, 2, .inl ik)), ((b 7), .inl (kk 0, 6, .inl z.2.2))] : va_W)) eS.symm) hD) hS (congrArg (fun z : Int32 × (Nat → Int32) × (Nat → Int32) => z.1) eS) rfl dX8_doesIt_23
def sX8_save_z_1 (q : Nat → Int32) (tx : Nat → Int32) (f : Nat → Int32) (ft : Nat → Int32) (dy : Nat → Int32) (kp : Nat → Int32) (ik : Nat → Int32) (jb : Nat → Int32) (x : Int32) (z_1 : (Nat → Int32)) : Int32 × (Nat → Int32) × (Nat → Int32) × (Nat → Int32) :=
  ((f 1), (upd q 0 0), z_1, (upd ik x.toNatClampNeg 1))
def sX8_save (q : Nat → Int32) (tx : Nat → Int32) (f : Nat → Int32) (ft : Nat → Int32) (dy : Nat → Int32) (kp : Nat → Int32) (ik : Nat → Int32) (jb : Nat → Int32) (x : Int32) : Int32 × (Nat → Int32) × (Nat → Int32) × (Nat → Int32) :=
  (if (sX8_in (x.toInt64) 0 1) = 0 then (0, (upd q 0 1), kp, ik) else (sX8_save_z_1 q tx f ft dy kp ik jb x (sX8_copyState 0 (64 * x.toNatClampNeg) f kp)))
set_option maxRecDepth 100000 in
set_option maxHeartbeats 4000000 in
theorem c_X8_save (l : Launch) (G : va_G) (kk : Nat → ClassId) (h : Nat) (b : Nat → Nat) (q : Nat → Int32) (tx : Nat → Int32) (f : Nat → Int32) (ft : Nat → Int32) (dy : Nat → Int32) (kp : Nat → Int32) (ik : Nat → Int32) (jb : Nat → Int32) (x : Int32)  : CC l yX8_save cX8_save 2 (some .int) (rmO 1 25) [.ref h, .int x] G kk ([(h, .inr (8, moF b q)), ((b 1), .inl (kk 0, 120, .inl tx)), ((b 2), .inl (kk 0, 64, .inl f)), ((b 3), .inl (kk 0, 64, .inl ft)), ((b 4), .inl (kk 0, 896, .inl dy)), ((b 5), .inl (kk 0, 128, .inl kp)), ((b 6), .inl (kk 2, 2, .inl ik)), ((b 7), .inl (kk 0, 6, .inl jb))]) (QI G kk ([(h, .inr (8, moF b ((sX8_save q tx f ft dy kp ik jb x).2.1))), ((b 1), .inl (kk 0, 120, .inl tx)), ((b 2), .inl (kk 0, 64, .inl f)), ((b 3), .inl (kk 0, 64, .inl ft)), ((b 4), .inl (kk 0, 896, .inl dy)), ((b 5), .inl (kk 0, 128, .inl ((sX8_save q tx f ft dy kp ik jb x).2.2.1))), ((b 6), .inl (kk 2, 2, .inl ((sX8_save q tx f ft dy kp ik jb x).2.2.2))), ((b 7), .inl (kk 0, 6, .inl jb))]) ((sX8_save q tx f ft dy kp ik jb x).1)) := by
  refine cc_start (by decide +kernel) (Nat.le_of_ble_eq_true rfl) ?_
  intro p e s m below meth c A ls hx hb hr hml hown hts hlocks hA hE hK hP hD hS hl
  have hown : s.vm.findClass RX8 = some m.cls := hown
  have hl : lv_has ls 2 [(0, .ref h), (1, .int x)] := hl
  have eS : sX8_save q tx f ft dy kp ik jb x = sX8_save q tx f ft dy kp ik jb x := rfl
  refine lv_aload_n hx hb dX8_save_0 rfl (lv_at hl 0 rfl) ?_
  refine lv_iload_n hx hb dX8_save_1 rfl (lv_at hl 1 rfl) ?_
  refine lv_i2l (v := (x.toInt64)) hx hb dX8_save_2 (by first | rfl | decide) ?_
  refine lv_lconst (v := 0) hx hb dX8_save_3 rfl ?_
  refine lv_lconst (v := 1) hx hb dX8_save_4 rfl ?_
  refine k_goI (k_runS (rest := [.ref h]) (As := [.long (x.toInt64), .long 0, .long 1]) hx hb hml hown hts hK hP hD hS hA hE hl.1 (c_X8_in l G kk (x.toInt64) 0 1 ) sl_X8_40 ⟨Nat.le_of_ble_eq_true rfl, Nat.le_of_ble_eq_true rfl, rfl, rfl⟩ [] rfl rfl ⟨Nat.zero_le _, Nat.zero_le _⟩ rfl (Nat.le_of_ble_eq_true rfl) dX8_save_5) hP hD hS hA [] rfl ads0 (fun H locs hP hD hS => ?_)
  replace hP : va_P G vwCl ([(h, .inr (8, moF b q)), ((b 1), .inl (kk 0, 120, .inl tx)), ((b 2), .inl (kk 0, 64, .inl f)), ((b 3), .inl (kk 0, 64, .inl ft)), ((b 4), .inl (kk 0, 896, .inl dy)), ((b 5), .inl (kk 0, 128, .inl kp)), ((b 6), .inl (kk 2, 2, .inl ik)), ((b 7), .inl (kk 0, 6, .inl jb))]) H := hP
  replace hD : va_D A ([(h, .inr (8, moF b q)), ((b 1), .inl (kk 0, 120, .inl tx)), ((b 2), .inl (kk 0, 64, .inl f)), ((b 3), .inl (kk 0, 64, .inl ft)), ((b 4), .inl (kk 0, 896, .inl dy)), ((b 5), .inl (kk 0, 128, .inl kp)), ((b 6), .inl (kk 2, 2, .inl ik)), ((b 7), .inl (kk 0, 6, .inl jb))]) := hD
  refine lv_if_eq (tgt := 15) hx hb dX8_save_8 (by decide) (fun c_8 => ?_) (fun c_8 => ?_)
  · have eS := eS.trans (if_pos c_8)
    refine lv_iconst (v := 1) hx hb dX8_save_15 (by decide) ?_
    refine k_goI (k_runV (rest := []) (As := [.int 1]) hx hb hml hown hts hK hP hD hS hA hE hl.1 (c_X8_refused9 l G kk h b q 1) vl_X8_119 rfl rfl rfl ⟨Nat.le_of_ble_eq_true rfl, Nat.le_of_ble_eq_true rfl, rfl, rfl⟩ [0] rfl rfl ⟨Nat.zero_le _, Nat.zero_le _⟩ rfl (Nat.le_of_ble_eq_true rfl) dX8_save_16) hP hD hS hA [0] rfl ads1 (fun H locs hP hD hS => ?_)
    replace hP : va_P G vwCl ([(h, .inr (8, moF b (upd q 0 1))), ((b 1), .inl (kk 0, 120, .inl tx)), ((b 2), .inl (kk 0, 64, .inl f)), ((b 3), .inl (kk 0, 64, .inl ft)), ((b 4), .inl (kk 0, 896, .inl dy)), ((b 5), .inl (kk 0, 128, .inl kp)), ((b 6), .inl (kk 2, 2, .inl ik)), ((b 7), .inl (kk 0, 6, .inl jb))]) H := hP
    replace hD : va_D A ([(h, .inr (8, moF b (upd q 0 1))), ((b 1), .inl (kk 0, 120, .inl tx)), ((b 2), .inl (kk 0, 64, .inl f)), ((b 3), .inl (kk 0, 64, .inl ft)), ((b 4), .inl (kk 0, 896, .inl dy)), ((b 5), .inl (kk 0, 128, .inl kp)), ((b 6), .inl (kk 2, 2, .inl ik)), ((b 7), .inl (kk 0, 6, .inl jb))]) := hD
    refine top_eq (y := 1) (by decide) ?_
    refine lv_if_eq (tgt := 24) hx hb dX8_save_19 (by decide) (fun c_19 => absurd c_19 (by decide)) (fun c_19 => ?_)
    refine lv_iconst (v := 0) hx hb dX8_save_22 (by decide) ?_
    exact fin_i hx hb hr hlocks hK (vP_eq (congrArg (fun z : Int32 × (Nat → Int32) × (Nat → Int32) × (Nat → Int32) => ([(h, .inr (8, moF b z.2.1)), ((b 1), .inl (kk 0, 120, .inl tx)), ((b 2), .inl (kk 0, 64, .inl f)), ((b 3), .inl (kk 0, 64, .inl ft)), ((b 4), .inl (kk 0, 896, .inl dy)), ((b 5), .inl (kk 0, 128, .inl z.2.2.1)), ((b 6), .inl (kk 2, 2, .inl z.2.2.2)), ((b 7), .inl (kk 0, 6, .inl jb))] : va_W)) eS.symm) hP) (vD_eq (congrArg (fun z : Int32 × (Nat → Int32) × (Nat → Int32) × (Nat → Int32) => ([(h, .inr (8, moF b z.2.1)), ((b 1), .inl (kk 0, 120, .inl tx)), ((b 2), .inl (kk 0, 64, .inl f)), ((b 3), .inl (kk 0, 64, .inl ft)), ((b 4), .inl (kk 0, 896, .inl dy)), ((b 5), .inl (kk 0, 128, .inl z.2.2.1)), ((b 6), .inl (kk 2, 2, .inl z.2.2.2)), ((b 7), .inl (kk 0, 6, .inl jb))] : va_W)) eS.symm) hD) hS (congrArg (fun z : Int32 × (Nat → Int32) × (Nat → Int32) × (Nat → Int32) => z.1) eS) dX8_save_23
  · have eS := eS.trans (if_neg c_8)
    refine lv_iconst (v := 0) hx hb dX8_save_11 (by decide) ?_
    refine lv_goto (tgt := 16) hx hb dX8_save_12 (by decide) ?_
    refine k_goI (k_runV (rest := []) (As := [.int 0]) hx hb hml hown hts hK hP hD hS hA hE hl.1 (c_X8_refused9 l G kk h b q 0) vl_X8_119 rfl rfl rfl ⟨Nat.le_of_ble_eq_true rfl, Nat.le_of_ble_eq_true rfl, rfl, rfl⟩ [0] rfl rfl ⟨Nat.zero_le _, Nat.zero_le _⟩ rfl (Nat.le_of_ble_eq_true rfl) dX8_save_16) hP hD hS hA [0] rfl ads1 (fun H locs hP hD hS => ?_)
    replace hP : va_P G vwCl ([(h, .inr (8, moF b (upd q 0 0))), ((b 1), .inl (kk 0, 120, .inl tx)), ((b 2), .inl (kk 0, 64, .inl f)), ((b 3), .inl (kk 0, 64, .inl ft)), ((b 4), .inl (kk 0, 896, .inl dy)), ((b 5), .inl (kk 0, 128, .inl kp)), ((b 6), .inl (kk 2, 2, .inl ik)), ((b 7), .inl (kk 0, 6, .inl jb))]) H := hP
    replace hD : va_D A ([(h, .inr (8, moF b (upd q 0 0))), ((b 1), .inl (kk 0, 120, .inl tx)), ((b 2), .inl (kk 0, 64, .inl f)), ((b 3), .inl (kk 0, 64, .inl ft)), ((b 4), .inl (kk 0, 896, .inl dy)), ((b 5), .inl (kk 0, 128, .inl kp)), ((b 6), .inl (kk 2, 2, .inl ik)), ((b 7), .inl (kk 0, 6, .inl jb))]) := hD
    refine top_eq (y := 0) (by decide) ?_
    refine lv_if_eq (tgt := 24) hx hb dX8_save_19 (by decide) (fun c_19 => ?_) (fun c_19 => absurd (by decide) c_19)
    obtain ⟨hx1, hx2⟩ := in_n (n := 1) c_8 rfl
    refine lv_aload_n hx hb dX8_save_24 rfl (lv_at hl 0 rfl) ?_
    refine r_get (v := .ref (b 2)) hx hb hts hown hK hP fl_X8_13 0 rfl rfl dX8_save_25 ?_
    refine lv_iconst (v := 0) hx hb dX8_save_28 (by decide) ?_
    refine lv_aload_n hx hb dX8_save_29 rfl (lv_at hl 0 rfl) ?_
    refine r_get (v := .ref (b 5)) hx hb hts hown hK hP fl_X8_22 0 rfl rfl dX8_save_30 ?_
    refine lv_bipush (v := 64) hx hb dX8_save_33 (by decide) ?_
    refine lv_iload_n hx hb dX8_save_35 rfl (lv_at hl 1 rfl) ?_
    refine top_eq (y := (nI x.toNatClampNeg)) (hx1) ?_
    refine lv_imul hx hb dX8_save_36 ?_
    refine top_eq (pk_mul 64 x.toNatClampNeg) ?_
    refine k_goV (k_runS (rest := []) (As := [.ref (b 2), .int 0, .ref (b 5), .int (nI (64 * x.toNatClampNeg))]) hx hb hml hown hts hK hP hD hS hA hE hl.1 (c_X8_copyState l G kk (b 2) 0 (b 5) (64 * x.toNatClampNeg) 64 128 f kp (by omega) (by omega) (by decide) (by decide)) sl_X8_175 ⟨Nat.le_of_ble_eq_true rfl, Nat.le_of_ble_eq_true rfl, rfl, rfl⟩ [2, 5] rfl rfl ⟨Nat.zero_le _, Nat.zero_le _⟩ rfl (Nat.le_of_ble_eq_true rfl) dX8_save_37) hP hD hS hA [2, 5] rfl ads2 (fun H locs hP hD hS => ?_)
    replace hP : va_P G vwCl ([(h, .inr (8, moF b (upd q 0 0))), ((b 1), .inl (kk 0, 120, .inl tx)), ((b 2), .inl (kk 0, 64, .inl f)), ((b 3), .inl (kk 0, 64, .inl ft)), ((b 4), .inl (kk 0, 896, .inl dy)), ((b 5), .inl (kk 0, 128, .inl (sX8_copyState 0 (64 * x.toNatClampNeg) f kp))), ((b 6), .inl (kk 2, 2, .inl ik)), ((b 7), .inl (kk 0, 6, .inl jb))]) H := hP
    replace hD : va_D A ([(h, .inr (8, moF b (upd q 0 0))), ((b 1), .inl (kk 0, 120, .inl tx)), ((b 2), .inl (kk 0, 64, .inl f)), ((b 3), .inl (kk 0, 64, .inl ft)), ((b 4), .inl (kk 0, 896, .inl dy)), ((b 5), .inl (kk 0, 128, .inl (sX8_copyState 0 (64 * x.toNatClampNeg) f kp))), ((b 6), .inl (kk 2, 2, .inl ik)), ((b 7), .inl (kk 0, 6, .inl jb))]) := hD
    have eS : sX8_save q tx f ft dy kp ik jb x = sX8_save_z_1 q tx f ft dy kp ik jb x (sX8_copyState 0 (64 * x.toNatClampNeg) f kp) := eS
    generalize sX8_copyState 0 (64 * x.toNatClampNeg) f kp = z_1 at hP hD eS ⊢
    refine lv_aload_n hx hb dX8_save_40 rfl (lv_at hl 0 rfl) ?_
    refine r_get (v := .ref (b 6)) hx hb hts hown hK hP fl_X8_25 0 rfl rfl dX8_save_41 ?_
    refine lv_iload_n hx hb dX8_save_44 rfl (lv_at hl 1 rfl) ?_
    refine top_eq (y := (nI x.toNatClampNeg)) (hx1) ?_
    refine lv_iconst (v := 1) hx hb dX8_save_45 (by decide) ?_
    refine r_zast hx hb hK hP hD hS 6 rfl x.toNatClampNeg rfl (by omega) (by decide) (by decide) dX8_save_46 (fun H locs hP hD hS => ?_)
    replace hP : va_P G vwCl ([(h, .inr (8, moF b (upd q 0 0))), ((b 1), .inl (kk 0, 120, .inl tx)), ((b 2), .inl (kk 0, 64, .inl f)), ((b 3), .inl (kk 0, 64, .inl ft)), ((b 4), .inl (kk 0, 896, .inl dy)), ((b 5), .inl (kk 0, 128, .inl z_1)), ((b 6), .inl (kk 2, 2, .inl (upd ik x.toNatClampNeg 1))), ((b 7), .inl (kk 0, 6, .inl jb))]) H := hP
    replace hD : va_D A ([(h, .inr (8, moF b (upd q 0 0))), ((b 1), .inl (kk 0, 120, .inl tx)), ((b 2), .inl (kk 0, 64, .inl f)), ((b 3), .inl (kk 0, 64, .inl ft)), ((b 4), .inl (kk 0, 896, .inl dy)), ((b 5), .inl (kk 0, 128, .inl z_1)), ((b 6), .inl (kk 2, 2, .inl (upd ik x.toNatClampNeg 1))), ((b 7), .inl (kk 0, 6, .inl jb))]) := hD
    refine lv_aload_n hx hb dX8_save_47 rfl (lv_at hl 0 rfl) ?_
    refine r_get (v := .ref (b 2)) hx hb hts hown hK hP fl_X8_13 0 rfl rfl dX8_save_48 ?_
    refine lv_iconst (v := 1) hx hb dX8_save_51 (by decide) ?_
    refine r_iald hx hb hK hP 2 rfl 1 rfl (by decide) (by decide) dX8_save_52 ?_
    exact fin_i hx hb hr hlocks hK (vP_eq (congrArg (fun z : Int32 × (Nat → Int32) × (Nat → Int32) × (Nat → Int32) => ([(h, .inr (8, moF b z.2.1)), ((b 1), .inl (kk 0, 120, .inl tx)), ((b 2), .inl (kk 0, 64, .inl f)), ((b 3), .inl (kk 0, 64, .inl ft)), ((b 4), .inl (kk 0, 896, .inl dy)), ((b 5), .inl (kk 0, 128, .inl z.2.2.1)), ((b 6), .inl (kk 2, 2, .inl z.2.2.2)), ((b 7), .inl (kk 0, 6, .inl jb))] : va_W)) eS.symm) hP) (vD_eq (congrArg (fun z : Int32 × (Nat → Int32) × (Nat → Int32) × (Nat → Int32) => ([(h, .inr (8, moF b z.2.1)), ((b 1), .inl (kk 0, 120, .inl tx)), ((b 2), .inl (kk 0, 64, .inl f)), ((b 3), .inl (kk 0, 64, .inl ft)), ((b 4), .inl (kk 0, 896, .inl dy)), ((b 5), .inl (kk 0, 128, .inl z.2.2.1)), ((b 6), .inl (kk 2, 2, .inl z.2.2.2)), ((b 7), .inl (kk 0, 6, .inl jb))] : va_W)) eS.symm) hD) hS (congrArg (fun z : Int32 × (Nat → Int32) × (Nat → Int32) × (Nat → Int32) => z.1) eS) dX8_save_53
def sX8_restore_z_1 (q : Nat → Int32) (tx : Nat → Int32) (f : Nat → Int32) (ft : Nat → Int32) (dy : Nat → Int32) (kp : Nat → Int32) (ik : Nat → Int32) (jb : Nat → Int32) (x : Int32) (z_1 : (Nat → Int32)) : Int32 × (Nat → Int32) × (Nat → Int32) :=
  ((z_1 1), (upd (upd q 0 0) 6 0), z_1)
def sX8_restore (q : Nat → Int32) (tx : Nat → Int32) (f : Nat → Int32) (ft : Nat → Int32) (dy : Nat → Int32) (kp : Nat → Int32) (ik : Nat → Int32) (jb : Nat → Int32) (x : Int32) : Int32 × (Nat → Int32) × (Nat → Int32) :=
  (if (sX8_in (x.toInt64) 0 1) = 0 then (0, (upd q 0 1), f) else (if (ik x.toNatClampNeg) = 0 then (0, (upd q 0 2), f) else (sX8_restore_z_1 q tx f ft dy kp ik jb x (sX8_copyState (64 * x.toNatClampNeg) 0 kp f))))
set_option maxRecDepth 100000 in
set_option maxHeartbeats 4000000 in
theorem c_X8_restore (l : Launch) (G : va_G) (kk : Nat → ClassId) (h : Nat) (b : Nat → Nat) (q : Nat → Int32) (tx : Nat → Int32) (f : Nat → Int32) (ft : Nat → Int32) (dy : Nat → Int32) (kp : Nat → Int32) (ik : Nat → Int32) (jb : Nat → Int32) (x : Int32)  : CC l yX8_restore cX8_restore 2 (some .int) (rmO 1 25) [.ref h, .int x] G kk ([(h, .inr (8, moF b q)), ((b 1), .inl (kk 0, 120, .inl tx)), ((b 2), .inl (kk 0, 64, .inl f)), ((b 3), .inl (kk 0, 64, .inl ft)), ((b 4), .inl (kk 0, 896, .inl dy)), ((b 5), .inl (kk 0, 128, .inl kp)), ((b 6), .inl (kk 2, 2, .inl ik)), ((b 7), .inl (kk 0, 6, .inl jb))]) (QI G kk ([(h, .inr (8, moF b ((sX8_restore q tx f ft dy kp ik jb x).2.1))), ((b 1), .inl (kk 0, 120, .inl tx)), ((b 2), .inl (kk 0, 64, .inl ((sX8_restore q tx f ft dy kp ik jb x).2.2))), ((b 3), .inl (kk 0, 64, .inl ft)), ((b 4), .inl (kk 0, 896, .inl dy)), ((b 5), .inl (kk 0, 128, .inl kp)), ((b 6), .inl (kk 2, 2, .inl ik)), ((b 7), .inl (kk 0, 6, .inl jb))]) ((sX8_restore q tx f ft dy kp ik jb x).1)) := by
  refine cc_start (by decide +kernel) (Nat.le_of_ble_eq_true rfl) ?_
  intro p e s m below meth c A ls hx hb hr hml hown hts hlocks hA hE hK hP hD hS hl
  have hown : s.vm.findClass RX8 = some m.cls := hown
  have hl : lv_has ls 2 [(0, .ref h), (1, .int x)] := hl
  have eS : sX8_restore q tx f ft dy kp ik jb x = sX8_restore q tx f ft dy kp ik jb x := rfl
  refine lv_aload_n hx hb dX8_restore_0 rfl (lv_at hl 0 rfl) ?_
  refine lv_iload_n hx hb dX8_restore_1 rfl (lv_at hl 1 rfl) ?_
  refine lv_i2l (v := (x.toInt64)) hx hb dX8_restore_2 (by first | rfl | decide) ?_
  refine lv_lconst (v := 0) hx hb dX8_restore_3 rfl ?_
  refine lv_lconst (v := 1) hx hb dX8_restore_4 rfl ?_
  refine k_goI (k_runS (rest := [.ref h]) (As := [.long (x.toInt64), .long 0, .long 1]) hx hb hml hown hts hK hP hD hS hA hE hl.1 (c_X8_in l G kk (x.toInt64) 0 1 ) sl_X8_40 ⟨Nat.le_of_ble_eq_true rfl, Nat.le_of_ble_eq_true rfl, rfl, rfl⟩ [] rfl rfl ⟨Nat.zero_le _, Nat.zero_le _⟩ rfl (Nat.le_of_ble_eq_true rfl) dX8_restore_5) hP hD hS hA [] rfl ads0 (fun H locs hP hD hS => ?_)
  replace hP : va_P G vwCl ([(h, .inr (8, moF b q)), ((b 1), .inl (kk 0, 120, .inl tx)), ((b 2), .inl (kk 0, 64, .inl f)), ((b 3), .inl (kk 0, 64, .inl ft)), ((b 4), .inl (kk 0, 896, .inl dy)), ((b 5), .inl (kk 0, 128, .inl kp)), ((b 6), .inl (kk 2, 2, .inl ik)), ((b 7), .inl (kk 0, 6, .inl jb))]) H := hP
  replace hD : va_D A ([(h, .inr (8, moF b q)), ((b 1), .inl (kk 0, 120, .inl tx)), ((b 2), .inl (kk 0, 64, .inl f)), ((b 3), .inl (kk 0, 64, .inl ft)), ((b 4), .inl (kk 0, 896, .inl dy)), ((b 5), .inl (kk 0, 128, .inl kp)), ((b 6), .inl (kk 2, 2, .inl ik)), ((b 7), .inl (kk 0, 6, .inl jb))]) := hD
  refine lv_if_ne (tgt := 15) hx hb dX8_restore_8 (by decide) (fun c_8 => ?_) (fun c_8 => ?_)
  · have eS := eS.trans (if_neg c_8)
    obtain ⟨hx1, hx2⟩ := in_n (n := 1) c_8 rfl
    refine lv_aload_n hx hb dX8_restore_15 rfl (lv_at hl 0 rfl) ?_
    refine r_get (v := .ref (b 6)) hx hb hts hown hK hP fl_X8_25 0 rfl rfl dX8_restore_16 ?_
    refine lv_iload_n hx hb dX8_restore_19 rfl (lv_at hl 1 rfl) ?_
    refine top_eq (y := (nI x.toNatClampNeg)) (hx1) ?_
    refine r_zald hx hb hK hP 6 rfl x.toNatClampNeg rfl (by omega) (by decide) dX8_restore_20 ?_
    refine lv_if_ne (tgt := 28) hx hb dX8_restore_21 (by decide) (fun c_21 => ?_) (fun c_21 => ?_)
    · have eS := eS.trans (if_neg c_21)
      refine lv_iconst (v := 0) hx hb dX8_restore_28 (by decide) ?_
      refine k_goI (k_runV (rest := []) (As := [.int 0]) hx hb hml hown hts hK hP hD hS hA hE hl.1 (c_X8_refused9 l G kk h b q 0) vl_X8_119 rfl rfl rfl ⟨Nat.le_of_ble_eq_true rfl, Nat.le_of_ble_eq_true rfl, rfl, rfl⟩ [0] rfl rfl ⟨Nat.zero_le _, Nat.zero_le _⟩ rfl (Nat.le_of_ble_eq_true rfl) dX8_restore_29) hP hD hS hA [0] rfl ads1 (fun H locs hP hD hS => ?_)
      replace hP : va_P G vwCl ([(h, .inr (8, moF b (upd q 0 0))), ((b 1), .inl (kk 0, 120, .inl tx)), ((b 2), .inl (kk 0, 64, .inl f)), ((b 3), .inl (kk 0, 64, .inl ft)), ((b 4), .inl (kk 0, 896, .inl dy)), ((b 5), .inl (kk 0, 128, .inl kp)), ((b 6), .inl (kk 2, 2, .inl ik)), ((b 7), .inl (kk 0, 6, .inl jb))]) H := hP
      replace hD : va_D A ([(h, .inr (8, moF b (upd q 0 0))), ((b 1), .inl (kk 0, 120, .inl tx)), ((b 2), .inl (kk 0, 64, .inl f)), ((b 3), .inl (kk 0, 64, .inl ft)), ((b 4), .inl (kk 0, 896, .inl dy)), ((b 5), .inl (kk 0, 128, .inl kp)), ((b 6), .inl (kk 2, 2, .inl ik)), ((b 7), .inl (kk 0, 6, .inl jb))]) := hD
      refine top_eq (y := 0) (by decide) ?_
      refine lv_if_eq (tgt := 37) hx hb dX8_restore_32 (by decide) (fun c_32 => ?_) (fun c_32 => absurd (by decide) c_32)
      refine lv_aload_n hx hb dX8_restore_37 rfl (lv_at hl 0 rfl) ?_
      refine r_get (v := .ref (b 5)) hx hb hts hown hK hP fl_X8_22 0 rfl rfl dX8_restore_38 ?_
      refine lv_bipush (v := 64) hx hb dX8_restore_41 (by decide) ?_
      refine lv_iload_n hx hb dX8_restore_43 rfl (lv_at hl 1 rfl) ?_
      refine top_eq (y := (nI x.toNatClampNeg)) (hx1) ?_
      refine lv_imul hx hb dX8_restore_44 ?_
      refine top_eq (pk_mul 64 x.toNatClampNeg) ?_
      refine lv_aload_n hx hb dX8_restore_45 rfl (lv_at hl 0 rfl) ?_
      refine r_get (v := .ref (b 2)) hx hb hts hown hK hP fl_X8_13 0 rfl rfl dX8_restore_46 ?_
      refine lv_iconst (v := 0) hx hb dX8_restore_49 (by decide) ?_
      refine k_goV (k_runS (rest := []) (As := [.ref (b 5), .int (nI (64 * x.toNatClampNeg)), .ref (b 2), .int 0]) hx hb hml hown hts hK hP hD hS hA hE hl.1 (c_X8_copyState l G kk (b 5) (64 * x.toNatClampNeg) (b 2) 0 128 64 kp f (by omega) (by omega) (by decide) (by decide)) sl_X8_175 ⟨Nat.le_of_ble_eq_true rfl, Nat.le_of_ble_eq_true rfl, rfl, rfl⟩ [5, 2] rfl rfl ⟨Nat.zero_le _, Nat.zero_le _⟩ rfl (Nat.le_of_ble_eq_true rfl) dX8_restore_50) hP hD hS hA [5, 2] rfl ads2 (fun H locs hP hD hS => ?_)
      replace hP : va_P G vwCl ([(h, .inr (8, moF b (upd q 0 0))), ((b 1), .inl (kk 0, 120, .inl tx)), ((b 2), .inl (kk 0, 64, .inl (sX8_copyState (64 * x.toNatClampNeg) 0 kp f))), ((b 3), .inl (kk 0, 64, .inl ft)), ((b 4), .inl (kk 0, 896, .inl dy)), ((b 5), .inl (kk 0, 128, .inl kp)), ((b 6), .inl (kk 2, 2, .inl ik)), ((b 7), .inl (kk 0, 6, .inl jb))]) H := hP
      replace hD : va_D A ([(h, .inr (8, moF b (upd q 0 0))), ((b 1), .inl (kk 0, 120, .inl tx)), ((b 2), .inl (kk 0, 64, .inl (sX8_copyState (64 * x.toNatClampNeg) 0 kp f))), ((b 3), .inl (kk 0, 64, .inl ft)), ((b 4), .inl (kk 0, 896, .inl dy)), ((b 5), .inl (kk 0, 128, .inl kp)), ((b 6), .inl (kk 2, 2, .inl ik)), ((b 7), .inl (kk 0, 6, .inl jb))]) := hD
      have eS : sX8_restore q tx f ft dy kp ik jb x = sX8_restore_z_1 q tx f ft dy kp ik jb x (sX8_copyState (64 * x.toNatClampNeg) 0 kp f) := eS
      generalize sX8_copyState (64 * x.toNatClampNeg) 0 kp f = z_1 at hP hD eS ⊢
      refine lv_aload_n hx hb dX8_restore_53 rfl (lv_at hl 0 rfl) ?_
      refine lv_iconst (v := 0) hx hb dX8_restore_54 (by decide) ?_
      refine r_put hx hb hts hown hK hP hD hS fl_X8_179 fw_8_6 0 rfl rfl rfl (Nat.le_of_ble_eq_true rfl) dX8_restore_55 (fun H locs hP hD hS => ?_)
      replace hP : va_P G vwCl ([(h, .inr (8, moF b (upd (upd q 0 0) 6 0))), ((b 1), .inl (kk 0, 120, .inl tx)), ((b 2), .inl (kk 0, 64, .inl z_1)), ((b 3), .inl (kk 0, 64, .inl ft)), ((b 4), .inl (kk 0, 896, .inl dy)), ((b 5), .inl (kk 0, 128, .inl kp)), ((b 6), .inl (kk 2, 2, .inl ik)), ((b 7), .inl (kk 0, 6, .inl jb))]) H := hP
      replace hD : va_D A ([(h, .inr (8, moF b (upd (upd q 0 0) 6 0))), ((b 1), .inl (kk 0, 120, .inl tx)), ((b 2), .inl (kk 0, 64, .inl z_1)), ((b 3), .inl (kk 0, 64, .inl ft)), ((b 4), .inl (kk 0, 896, .inl dy)), ((b 5), .inl (kk 0, 128, .inl kp)), ((b 6), .inl (kk 2, 2, .inl ik)), ((b 7), .inl (kk 0, 6, .inl jb))]) := hD
      refine lv_aload_n hx hb dX8_restore_58 rfl (lv_at hl 0 rfl) ?_
      refine r_get (v := .ref (b 2)) hx hb hts hown hK hP fl_X8_13 0 rfl rfl dX8_restore_59 ?_
      refine lv_iconst (v := 1) hx hb dX8_restore_62 (by decide) ?_
      refine r_iald hx hb hK hP 2 rfl 1 rfl (by decide) (by decide) dX8_restore_63 ?_
      exact fin_i hx hb hr hlocks hK (vP_eq (congrArg (fun z : Int32 × (Nat → Int32) × (Nat → Int32) => ([(h, .inr (8, moF b z.2.1)), ((b 1), .inl (kk 0, 120, .inl tx)), ((b 2), .inl (kk 0, 64, .inl z.2.2)), ((b 3), .inl (kk 0, 64, .inl ft)), ((b 4), .inl (kk 0, 896, .inl dy)), ((b 5), .inl (kk 0, 128, .inl kp)), ((b 6), .inl (kk 2, 2, .inl ik)), ((b 7), .inl (kk 0, 6, .inl jb))] : va_W)) eS.symm) hP) (vD_eq (congrArg (fun z : Int32 × (Nat → Int32) × (Nat → Int32) => ([(h, .inr (8, moF b z.2.1)), ((b 1), .inl (kk 0, 120, .inl tx)), ((b 2), .inl (kk 0, 64, .inl z.2.2)), ((b 3), .inl (kk 0, 64, .inl ft)), ((b 4), .inl (kk 0, 896, .inl dy)), ((b 5), .inl (kk 0, 128, .inl kp)), ((b 6), .inl (kk 2, 2, .inl ik)), ((b 7), .inl (kk 0, 6, .inl jb))] : va_W)) eS.symm) hD) hS (congrArg (fun z : Int32 × (Nat → Int32) × (Nat → Int32) => z.1) eS) dX8_restore_64
    · have eS := eS.trans (if_pos c_21)
      refine lv_iconst (v := 2) hx hb dX8_restore_24 (by decide) ?_
      refine lv_goto (tgt := 29) hx hb dX8_restore_25 (by decide) ?_
      refine k_goI (k_runV (rest := []) (As := [.int 2]) hx hb hml hown hts hK hP hD hS hA hE hl.1 (c_X8_refused9 l G kk h b q 2) vl_X8_119 rfl rfl rfl ⟨Nat.le_of_ble_eq_true rfl, Nat.le_of_ble_eq_true rfl, rfl, rfl⟩ [0] rfl rfl ⟨Nat.zero_le _, Nat.zero_le _⟩ rfl (Nat.le_of_ble_eq_true rfl) dX8_restore_29) hP hD hS hA [0] rfl ads1 (fun H locs hP hD hS => ?_)
      replace hP : va_P G vwCl ([(h, .inr (8, moF b (upd q 0 2))), ((b 1), .inl (kk 0, 120, .inl tx)), ((b 2), .inl (kk 0, 64, .inl f)), ((b 3), .inl (kk 0, 64, .inl ft)), ((b 4), .inl (kk 0, 896, .inl dy)), ((b 5), .inl (kk 0, 128, .inl kp)), ((b 6), .inl (kk 2, 2, .inl ik)), ((b 7), .inl (kk 0, 6, .inl jb))]) H := hP
      replace hD : va_D A ([(h, .inr (8, moF b (upd q 0 2))), ((b 1), .inl (kk 0, 120, .inl tx)), ((b 2), .inl (kk 0, 64, .inl f)), ((b 3), .inl (kk 0, 64, .inl ft)), ((b 4), .inl (kk 0, 896, .inl dy)), ((b 5), .inl (kk 0, 128, .inl kp)), ((b 6), .inl (kk 2, 2, .inl ik)), ((b 7), .inl (kk 0, 6, .inl jb))]) := hD
      refine top_eq (y := 1) (by decide) ?_
      refine lv_if_eq (tgt := 37) hx hb dX8_restore_32 (by decide) (fun c_32 => absurd c_32 (by decide)) (fun c_32 => ?_)
      refine lv_iconst (v := 0) hx hb dX8_restore_35 (by decide) ?_
      exact fin_i hx hb hr hlocks hK (vP_eq (congrArg (fun z : Int32 × (Nat → Int32) × (Nat → Int32) => ([(h, .inr (8, moF b z.2.1)), ((b 1), .inl (kk 0, 120, .inl tx)), ((b 2), .inl (kk 0, 64, .inl z.2.2)), ((b 3), .inl (kk 0, 64, .inl ft)), ((b 4), .inl (kk 0, 896, .inl dy)), ((b 5), .inl (kk 0, 128, .inl kp)), ((b 6), .inl (kk 2, 2, .inl ik)), ((b 7), .inl (kk 0, 6, .inl jb))] : va_W)) eS.symm) hP) (vD_eq (congrArg (fun z : Int32 × (Nat → Int32) × (Nat → Int32) => ([(h, .inr (8, moF b z.2.1)), ((b 1), .inl (kk 0, 120, .inl tx)), ((b 2), .inl (kk 0, 64, .inl z.2.2)), ((b 3), .inl (kk 0, 64, .inl ft)), ((b 4), .inl (kk 0, 896, .inl dy)), ((b 5), .inl (kk 0, 128, .inl kp)), ((b 6), .inl (kk 2, 2, .inl ik)), ((b 7), .inl (kk 0, 6, .inl jb))] : va_W)) eS.symm) hD) hS (congrArg (fun z : Int32 × (Nat → Int32) × (Nat → Int32) => z.1) eS) dX8_restore_36
  · have eS := eS.trans (if_pos c_8)
    refine lv_iconst (v := 1) hx hb dX8_restore_11 (by decide) ?_
    refine lv_goto (tgt := 29) hx hb dX8_restore_12 (by decide) ?_
    refine k_goI (k_runV (rest := []) (As := [.int 1]) hx hb hml hown hts hK hP hD hS hA hE hl.1 (c_X8_refused9 l G kk h b q 1) vl_X8_119 rfl rfl rfl ⟨Nat.le_of_ble_eq_true rfl, Nat.le_of_ble_eq_true rfl, rfl, rfl⟩ [0] rfl rfl ⟨Nat.zero_le _, Nat.zero_le _⟩ rfl (Nat.le_of_ble_eq_true rfl) dX8_restore_29) hP hD hS hA [0] rfl ads1 (fun H locs hP hD hS => ?_)
    replace hP : va_P G vwCl ([(h, .inr (8, moF b (upd q 0 1))), ((b 1), .inl (kk 0, 120, .inl tx)), ((b 2), .inl (kk 0, 64, .inl f)), ((b 3), .inl (kk 0, 64, .inl ft)), ((b 4), .inl (kk 0, 896, .inl dy)), ((b 5), .inl (kk 0, 128, .inl kp)), ((b 6), .inl (kk 2, 2, .inl ik)), ((b 7), .inl (kk 0, 6, .inl jb))]) H := hP
    replace hD : va_D A ([(h, .inr (8, moF b (upd q 0 1))), ((b 1), .inl (kk 0, 120, .inl tx)), ((b 2), .inl (kk 0, 64, .inl f)), ((b 3), .inl (kk 0, 64, .inl ft)), ((b 4), .inl (kk 0, 896, .inl dy)), ((b 5), .inl (kk 0, 128, .inl kp)), ((b 6), .inl (kk 2, 2, .inl ik)), ((b 7), .inl (kk 0, 6, .inl jb))]) := hD
    refine top_eq (y := 1) (by decide) ?_
    refine lv_if_eq (tgt := 37) hx hb dX8_restore_32 (by decide) (fun c_32 => absurd c_32 (by decide)) (fun c_32 => ?_)
    refine lv_iconst (v := 0) hx hb dX8_restore_35 (by decide) ?_
    exact fin_i hx hb hr hlocks hK (vP_eq (congrArg (fun z : Int32 × (Nat → Int32) × (Nat → Int32) => ([(h, .inr (8, moF b z.2.1)), ((b 1), .inl (kk 0, 120, .inl tx)), ((b 2), .inl (kk 0, 64, .inl z.2.2)), ((b 3), .inl (kk 0, 64, .inl ft)), ((b 4), .inl (kk 0, 896, .inl dy)), ((b 5), .inl (kk 0, 128, .inl kp)), ((b 6), .inl (kk 2, 2, .inl ik)), ((b 7), .inl (kk 0, 6, .inl jb))] : va_W)) eS.symm) hP) (vD_eq (congrArg (fun z : Int32 × (Nat → Int32) × (Nat → Int32) => ([(h, .inr (8, moF b z.2.1)), ((b 1), .inl (kk 0, 120, .inl tx)), ((b 2), .inl (kk 0, 64, .inl z.2.2)), ((b 3), .inl (kk 0, 64, .inl ft)), ((b 4), .inl (kk 0, 896, .inl dy)), ((b 5), .inl (kk 0, 128, .inl kp)), ((b 6), .inl (kk 2, 2, .inl ik)), ((b 7), .inl (kk 0, 6, .inl jb))] : va_W)) eS.symm) hD) hS (congrArg (fun z : Int32 × (Nat → Int32) × (Nat → Int32) => z.1) eS) dX8_restore_36
