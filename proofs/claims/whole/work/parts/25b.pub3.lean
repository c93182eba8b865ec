theorem zif {α : Type} {P : α → Prop} {c : Prop} [Decidable c] {a b : α} (h1 : P a) (h2 : P b) : P (if c then a else b) := by
  by_cases h : c
  · rw [if_pos h]; exact h1
  · rw [if_neg h]; exact h2
theorem cmd_0 {n : Nat} (h6 : n ≤ 6) (q tx f ft dy kp ik jb : Nat → Int32) (x : Int32) (y : Int32) : (sX8_command q tx f ft dy kp ik jb x y n).2.2.1 0 = ft 0 := by
  simp only [sX8_command, sX8_command_j378, sX8_command_z_7, sX8_command_z_6, sX8_command_z_5, sX8_command_z_4, sX8_command_z_3, sX8_command_j142, sX8_command_j43]
  (repeat' refine zif (P := fun z : Int32 × (Nat → Int32) × (Nat → Int32) × (Nat → Int32) => z.2.2.1 0 = ft 0) ?_ ?_) <;> first | rfl | exact pk_un (by omega) | exact rn_0 h6 q jb ft _ | exact rn_0 h6 q jb ft 15 | exact do_0 _ _ _ _ | exact go_0 _ _ _
theorem tu_0 {n : Nat} (h6 : n ≤ 6) (q tx f ft dy kp ik jb : Nat → Int32) (x : Int32) : (sX8_turn q tx f ft dy kp ik jb x n).2.1 0 = ft 0 := by
  simp only [sX8_turn, sX8_turn_z_1, sX8_turn_z_2, sX8_turn_z_4, sX8_turn_j52]
  (repeat' refine zif (P := fun z : (Nat → Int32) × (Nat → Int32) × (Nat → Int32) => z.2.1 0 = ft 0) ?_ ?_) <;> first | rfl | exact pk_un (by omega) | exact rn_0 h6 q jb ft _ | exact rn_0 h6 q jb ft 15 | exact do_0 _ _ _ _ | exact go_0 _ _ _
def P5 : Nat → Int64
  | 0 => 1
  | 1 => 100000
  | 2 => 10000000000
  | _ => 1000000000000000
theorem p5_s {al : Int64} {i : Nat} (h : al = P5 i) (hi : i < 3) : al * 100000 = P5 (i + 1) := by
  subst h
  match i, hi with
  | 0, _ => rfl
  | 1, _ => rfl
  | 2, _ => rfl
theorem p5_q {k : Nat} (hk : k < 3) : P5 (k + 1) / 100000 = P5 k := by
  match k, hk with
  | 0, _ => decide +kernel
  | 1, _ => decide +kernel
  | 2, _ => decide +kernel
theorem p5_d {al : Int64} {i m : Nat} (h : al = P5 (m - i)) (hi : i < m) (hm : m < 4) : al / 100000 = P5 (m - (i + 1)) := by
  subst h
  have : m - i = (m - (i + 1)) + 1 := by omega
  rw [this]
  exact p5_q (by omega)
theorem p5_n {al : Int64} {i m : Nat} (h : al = P5 (m - i)) (hi : i < m) (hm : m < 4) : ¬ al / 100000 = 0 := by
  rw [p5_d h hi hm]
  have : ∀ k, k < 3 → ¬ P5 k = 0 := by
    intro k hk
    match k, hk with
    | 0, _ => decide +kernel
    | 1, _ => decide +kernel
    | 2, _ => decide +kernel
  exact this _ (by omega)
theorem p5_y {al : Int64} {j : Nat} {y : Int32} (h : al = P5 j) (h3 : j ≤ 3) (h1 : j = 0 ∨ nI (j - 1) < y) (h2 : j = 3 ∨ y ≤ nI j) (hc : ¬ sX8_in y.toInt64 1 3 = 0) : al = P5 (y.toNatClampNeg - 0) := by
  obtain ⟨a1, a2⟩ := in_i (a := 1) (b := 3) hc rfl rfl
  obtain ⟨b1, b2⟩ := in_p (n := 3) hc rfl
  have e : y.toInt = (y.toNatClampNeg : Int) := by
    have : y.toNatClampNeg = y.toInt.toNat := rfl
    omega
  have e3 : ∀ k : Nat, k ≤ 3 → (nI k).toInt = k := fun k hk => nI_toInt (by omega)
  rw [Int32.lt_iff_toInt_lt, e3 (j - 1) (by omega)] at h1
  rw [Int32.le_iff_toInt_le, e3 j h3] at h2
  have : j = y.toNatClampNeg - 0 := by omega
  rw [h, this]
theorem sh_b (x : Int64) : (x.toUInt64 >>> (33 : UInt64)).toNat < 2 ^ 31 := by
  have e : (33 : UInt64).toNat % 64 = 33 := rfl
  rw [UInt64.toNat_shiftRight, e, Nat.shiftRight_eq_div_pow]
  have := x.toUInt64.toNat_lt
  omega
theorem sh_i {w : UInt64} (h : w.toNat < 2 ^ 31) : w.toInt64.toInt32.toInt = (w.toNat : Int) := by
  have e : w.toInt64.toInt = (w.toNat : Int) := by
    show w.toBitVec.toInt = ((w.toBitVec.toNat : Nat) : Int)
    have h2 : w.toBitVec.toNat < 2 ^ 31 := h
    rw [BitVec.toInt_eq_toNat_bmod, Int.bmod_eq_of_le] <;> omega
  rw [Int64.toInt_toInt32, e, Int.bmod_eq_of_le] <;> omega
def lcg (x : Int64) : Int64 := x * 6364136223846793005 + 1442695040888963407
theorem lcg_e (x : Int64) : x * 6364136223846793005 + 1442695040888963407 = lcg x := rfl
def hi31 (x : Int64) : Int32 := ((x.toUInt64 >>> ((33 : Int32).toInt64.toUInt64 &&& Int64.toUInt64 63)).toInt64).toInt32
theorem hi31_e (x : Int64) : ((x.toUInt64 >>> ((33 : Int32).toInt64.toUInt64 &&& Int64.toUInt64 63)).toInt64).toInt32 = hi31 x := rfl
theorem sh_nn (x : Int64) : 0 ≤ (hi31 x).toInt := by
  unfold hi31
  have e : ((33 : Int32).toInt64.toUInt64 &&& Int64.toUInt64 63) = 33 := by decide +kernel
  rw [e, sh_i (sh_b x)]
  omega
def lp_X8_runScript_86 (q : Nat → Int32) (tx : Nat → Int32) (f : Nat → Int32) (ft : Nat → Int32) (dy : Nat → Int32) (kp : Nat → Int32) (ik : Nat → Int32) (jb : Nat → Int32) (n : Nat) (y : Int32) (sc : Int64) (al : Int64) (j : Nat) (z_1 : (Nat → Int32)) : Nat → Nat → Int64 → (Nat → Int32) → (Nat → Int32) → (Nat → Int32) → Int32 × (Nat → Int32) × (Nat → Int32) × (Nat → Int32)
  | 0, i, al1, q1, jb1, ft1 => ((-1), q1, ft1, jb1)
  | d + 1, i, al1, q1, jb1, ft1 => ((fun (z_2 : Int32 × (Nat → Int32) × (Nat → Int32) × (Nat → Int32)) => (if z_2.1 = 0 then ((nI i), z_2.2.1, z_2.2.2.1, z_2.2.2.2) else (lp_X8_runScript_86 q tx f ft dy kp ik jb n y sc al j z_1 d (i + 1) (al1 / 100000) z_2.2.1 z_2.2.2.2 z_2.2.2.1))) (sX8_command q1 tx f ft1 dy kp ik jb1 ((((sc / (al1 / 100000)) - (sc / (al1 / 100000)) / 100000 * 100000).toInt32) / 10000) ((((sc / (al1 / 100000)) - (sc / (al1 / 100000)) / 100000 * 100000).toInt32) - (((sc / (al1 / 100000)) - (sc / (al1 / 100000)) / 100000 * 100000).toInt32) / 10000 * 10000) n))
def sX8_runScript_z_1 (q : Nat → Int32) (tx : Nat → Int32) (f : Nat → Int32) (ft : Nat → Int32) (dy : Nat → Int32) (kp : Nat → Int32) (ik : Nat → Int32) (jb : Nat → Int32) (n : Nat) (y : Int32) (sc : Int64) (al : Int64) (j : Nat) (z_1 : (Nat → Int32)) : Int32 × (Nat → Int32) × (Nat → Int32) × (Nat → Int32) :=
  (lp_X8_runScript_86 q tx f ft dy kp ik jb n y sc al j z_1 y.toNatClampNeg 0 al (upd q 0 0) jb z_1)
def sX8_runScript_x32 (q : Nat → Int32) (tx : Nat → Int32) (f : Nat → Int32) (ft : Nat → Int32) (dy : Nat → Int32) (kp : Nat → Int32) (ik : Nat → Int32) (jb : Nat → Int32) (n : Nat) (y : Int32) (sc : Int64) (al : Int64) (j : Nat) : Int32 × (Nat → Int32) × (Nat → Int32) × (Nat → Int32) :=
  (if (sX8_in (y.toInt64) 1 3) = 0 then (0, (upd q 0 1), ft, jb) else (if (sX8_in sc 0 (al - 1)) = 0 then (0, (upd q 0 1), ft, jb) else (sX8_runScript_z_1 q tx f ft dy kp ik jb n y sc al j (sX8_copyState 0 0 f ft))))
def sX8_runScript_j32 (q : Nat → Int32) (tx : Nat → Int32) (f : Nat → Int32) (ft : Nat → Int32) (dy : Nat → Int32) (kp : Nat → Int32) (ik : Nat → Int32) (jb : Nat → Int32) (n : Nat) (y : Int32) (sc : Int64) (i : Nat) (al : Int64) : Int32 × (Nat → Int32) × (Nat → Int32) × (Nat → Int32) :=
  (sX8_runScript_x32 q tx f ft dy kp ik jb n y sc al i)
def lp_X8_runScript_6 (q : Nat → Int32) (tx : Nat → Int32) (f : Nat → Int32) (ft : Nat → Int32) (dy : Nat → Int32) (kp : Nat → Int32) (ik : Nat → Int32) (jb : Nat → Int32) (n : Nat) (y : Int32) (sc : Int64) : Nat → Nat → Int64 → Int32 × (Nat → Int32) × (Nat → Int32) × (Nat → Int32)
  | 0, i, al => (sX8_runScript_j32 q tx f ft dy kp ik jb n y sc i al )
  | d + 1, i, al => (if y ≤ (nI i) then (sX8_runScript_x32 q tx f ft dy kp ik jb n y sc al i) else (lp_X8_runScript_6 q tx f ft dy kp ik jb n y sc d (i + 1) (al * 100000)))
def sX8_runScript (q : Nat → Int32) (tx : Nat → Int32) (f : Nat → Int32) (ft : Nat → Int32) (dy : Nat → Int32) (kp : Nat → Int32) (ik : Nat → Int32) (jb : Nat → Int32) (n : Nat) (y : Int32) (sc : Int64) : Int32 × (Nat → Int32) × (Nat → Int32) × (Nat → Int32) :=
  (lp_X8_runScript_6 q tx f ft dy kp ik jb n y sc 3 0 1)
set_option maxRecDepth 100000 in
set_option maxHeartbeats 4000000 in
theorem c_X8_runScript (l : Launch) (G : va_G) (kk : Nat → ClassId) (h : Nat) (b : Nat → Nat) (q : Nat → Int32) (tx : Nat → Int32) (f : Nat → Int32) (ft : Nat → Int32) (dy : Nat → Int32) (kp : Nat → Int32) (ik : Nat → Int32) (jb : Nat → Int32) (n : Nat) (y : Int32) (sc : Int64) (hn : f 0 = nI n) (h6 : n ≤ 6) : CC l yX8_runScript cX8_runScript 8 (some .int) (rmO 7 164) [.ref h, .int y, .long sc] G kk ([(h, .inr (8, moF b q)), ((b 1), .inl (kk 0, 120, .inl tx)), ((b 2), .inl (kk 0, 64, .inl f)), ((b 3), .inl (kk 0, 64, .inl ft)), ((b 4), .inl (kk 0, 896, .inl dy)), ((b 5), .inl (kk 0, 128, .inl kp)), ((b 6), .inl (kk 2, 2, .inl ik)), ((b 7), .inl (kk 0, 6, .inl jb))]) (QI G kk ([(h, .inr (8, moF b ((sX8_runScript q tx f ft dy kp ik jb n y sc).2.1))), ((b 1), .inl (kk 0, 120, .inl tx)), ((b 2), .inl (kk 0, 64, .inl f)), ((b 3), .inl (kk 0, 64, .inl ((sX8_runScript q tx f ft dy kp ik jb n y sc).2.2.1))), ((b 4), .inl (kk 0, 896, .inl dy)), ((b 5), .inl (kk 0, 128, .inl kp)), ((b 6), .inl (kk 2, 2, .inl ik)), ((b 7), .inl (kk 0, 6, .inl ((sX8_runScript q tx f ft dy kp ik jb n y sc).2.2.2)))]) ((sX8_runScript q tx f ft dy kp ik jb n y sc).1)) := by
  refine cc_start (by decide +kernel) (Nat.le_of_ble_eq_true rfl) ?_
  intro p e s m below meth c A ls hx hb hr hml hown hts hlocks hA hE hK hP hD hS hl
  have hown : s.vm.findClass RX8 = some m.cls := hown
  have hl : lv_has ls 8 [(0, .ref h), (1, .int y), (2, .long sc)] := hl
  have eS : sX8_runScript q tx f ft dy kp ik jb n y sc = sX8_runScript q tx f ft dy kp ik jb n y sc := rfl
  refine lv_lconst (v := 1) hx hb dX8_runScript_0 rfl ?_
  refine lv_lstore (lv' := [(4, .long 1), (0, .ref h), (1, .int y), (2, .long sc)]) hx hb dX8_runScript_1 hl (by decide) rfl (fun ls hl => ?_)
  refine lv_iconst (v := 0) hx hb dX8_runScript_3 (by decide) ?_
  refine lv_istore (lv' := [(6, .int 0), (4, .long 1), (0, .ref h), (1, .int y), (2, .long sc)]) hx hb dX8_runScript_4 hl (by decide) rfl (fun ls hl => ?_)
  have X_4 : ∀ (al : Int64) (j : Nat) (hal : al = P5 j) (hj3 : j ≤ 3) (hj1 : j = 0 ∨ nI (j - 1) < y) (hj2 : j = 3 ∨ y ≤ nI j) (eS : sX8_runScript q tx f ft dy kp ik jb n y sc = sX8_runScript_x32 q tx f ft dy kp ik jb n y sc al j) (H : Heap) (locs : List Loc) (ls : Array Slot) (hP : va_P G vwCl ([(h, .inr (8, moF b q)), ((b 1), .inl (kk 0, 120, .inl tx)), ((b 2), .inl (kk 0, 64, .inl f)), ((b 3), .inl (kk 0, 64, .inl ft)), ((b 4), .inl (kk 0, 896, .inl dy)), ((b 5), .inl (kk 0, 128, .inl kp)), ((b 6), .inl (kk 2, 2, .inl ik)), ((b 7), .inl (kk 0, 6, .inl jb))]) H) (hD : va_D A ([(h, .inr (8, moF b q)), ((b 1), .inl (kk 0, 120, .inl tx)), ((b 2), .inl (kk 0, 64, .inl f)), ((b 3), .inl (kk 0, 64, .inl ft)), ((b 4), .inl (kk 0, 896, .inl dy)), ((b 5), .inl (kk 0, 128, .inl kp)), ((b 6), .inl (kk 2, 2, .inl ik)), ((b 7), .inl (kk 0, 6, .inl jb))])) (hS : va_S A s.heap H locs) (hl : lv_has ls 8 [(0, .ref h), (1, .int y), (2, .long sc), (4, .long al)]), GO p l e (rmO 7 164) s m ([.ref h, .int y, .long sc] : List Value).toArray below meth c A (QI G kk ([(h, .inr (8, moF b ((sX8_runScript q tx f ft dy kp ik jb n y sc).2.1))), ((b 1), .inl (kk 0, 120, .inl tx)), ((b 2), .inl (kk 0, 64, .inl f)), ((b 3), .inl (kk 0, 64, .inl ((sX8_runScript q tx f ft dy kp ik jb n y sc).2.2.1))), ((b 4), .inl (kk 0, 896, .inl dy)), ((b 5), .inl (kk 0, 128, .inl kp)), ((b 6), .inl (kk 2, 2, .inl ik)), ((b 7), .inl (kk 0, 6, .inl ((sX8_runScript q tx f ft dy kp ik jb n y sc).2.2.2)))]) ((sX8_runScript q tx f ft dy kp ik jb n y sc).1)) H locs (F0 m 32 ls []) := by
    intro al j hal hj3 hj1 hj2 eS H locs ls hP hD hS hl
    refine lv_aload_n hx hb dX8_runScript_32 rfl (lv_at hl 0 rfl) ?_
    refine lv_iload_n hx hb dX8_runScript_33 rfl (lv_at hl 1 rfl) ?_
    refine lv_i2l (v := (y.toInt64)) hx hb dX8_runScript_34 (by first | rfl | decide) ?_
    refine lv_lconst (v := 1) hx hb dX8_runScript_35 rfl ?_
    refine lv_ldc2 (v := 3) hx hb hown (hts _ kl_X8_214) dX8_runScript_36 ?_
    refine k_goI (k_runS (rest := [.ref h]) (As := [.long (y.toInt64), .long 1, .long 3]) hx hb hml hown hts hK hP hD hS hA hE hl.1 (c_X8_in l G kk (y.toInt64) 1 3 ) sl_X8_40 ⟨Nat.le_of_ble_eq_true rfl, Nat.le_of_ble_eq_true rfl, rfl, rfl⟩ [] rfl rfl ⟨Nat.zero_le _, Nat.zero_le _⟩ rfl (Nat.le_of_ble_eq_true rfl) dX8_runScript_39) hP hD hS hA [] rfl ads0 (fun H locs hP hD hS => ?_)
    replace hP : va_P G vwCl ([(h, .inr (8, moF b q)), ((b 1), .inl (kk 0, 120, .inl tx)), ((b 2), .inl (kk 0, 64, .inl f)), ((b 3), .inl (kk 0, 64, .inl ft)), ((b 4), .inl (kk 0, 896, .inl dy)), ((b 5), .inl (kk 0, 128, .inl kp)), ((b 6), .inl (kk 2, 2, .inl ik)), ((b 7), .inl (kk 0, 6, .inl jb))]) H := hP
    replace hD : va_D A ([(h, .inr (8, moF b q)), ((b 1), .inl (kk 0, 120, .inl tx)), ((b 2), .inl (kk 0, 64, .inl f)), ((b 3), .inl (kk 0, 64, .inl ft)), ((b 4), .inl (kk 0, 896, .inl dy)), ((b 5), .inl (kk 0, 128, .inl kp)), ((b 6), .inl (kk 2, 2, .inl ik)), ((b 7), .inl (kk 0, 6, .inl jb))]) := hD
    refine lv_if_eq (tgt := 61) hx hb dX8_runScript_42 (by decide) (fun c_42 => ?_) (fun c_42 => ?_)
    · have eS := eS.trans (if_pos c_42)
      refine lv_iconst (v := 1) hx hb dX8_runScript_61 (by decide) ?_
      refine k_goI (k_runV (rest := []) (As := [.int 1]) hx hb hml hown hts hK hP hD hS hA hE hl.1 (c_X8_refused9 l G kk h b q 1) vl_X8_119 rfl rfl rfl ⟨Nat.le_of_ble_eq_true rfl, Nat.le_of_ble_eq_true rfl, rfl, rfl⟩ [0] rfl rfl ⟨Nat.zero_le _, Nat.zero_le _⟩ rfl (Nat.le_of_ble_eq_true rfl) dX8_runScript_62) hP hD hS hA [0] rfl ads1 (fun H locs hP hD hS => ?_)
      replace hP : va_P G vwCl ([(h, .inr (8, moF b (upd q 0 1))), ((b 1), .inl (kk 0, 120, .inl tx)), ((b 2), .inl (kk 0, 64, .inl f)), ((b 3), .inl (kk 0, 64, .inl ft)), ((b 4), .inl (kk 0, 896, .inl dy)), ((b 5), .inl (kk 0, 128, .inl kp)), ((b 6), .inl (kk 2, 2, .inl ik)), ((b 7), .inl (kk 0, 6, .inl jb))]) H := hP
      replace hD : va_D A ([(h, .inr (8, moF b (upd q 0 1))), ((b 1), .inl (kk 0, 120, .inl tx)), ((b 2), .inl (kk 0, 64, .inl f)), ((b 3), .inl (kk 0, 64, .inl ft)), ((b 4), .inl (kk 0, 896, .inl dy)), ((b 5), .inl (kk 0, 128, .inl kp)), ((b 6), .inl (kk 2, 2, .inl ik)), ((b 7), .inl (kk 0, 6, .inl jb))]) := hD
      refine top_eq (y := 1) (by decide) ?_
      refine lv_if_eq (tgt := 70) hx hb dX8_runScript_65 (by decide) (fun c_65 => absurd c_65 (by decide)) (fun c_65 => ?_)
      refine lv_iconst (v := 0) hx hb dX8_runScript_68 (by decide) ?_
      exact fin_i hx hb hr hlocks hK (vP_eq (congrArg (fun z : Int32 × (Nat → Int32) × (Nat → Int32) × (Nat → Int32) => ([(h, .inr (8, moF b z.2.1)), ((b 1), .inl (kk 0, 120, .inl tx)), ((b 2), .inl (kk 0, 64, .inl f)), ((b 3), .inl (kk 0, 64, .inl z.2.2.1)), ((b 4), .inl (kk 0, 896, .inl dy)), ((b 5), .inl (kk 0, 128, .inl kp)), ((b 6), .inl (kk 2, 2, .inl ik)), ((b 7), .inl (kk 0, 6, .inl z.2.2.2))] : va_W)) eS.symm) hP) (vD_eq (congrArg (fun z : Int32 × (Nat → Int32) × (Nat → Int32) × (Nat → Int32) => ([(h, .inr (8, moF b z.2.1)), ((b 1), .inl (kk 0, 120, .inl tx)), ((b 2), .inl (kk 0, 64, .inl f)), ((b 3), .inl (kk 0, 64, .inl z.2.2.1)), ((b 4), .inl (kk 0, 896, .inl dy)), ((b 5), .inl (kk 0, 128, .inl kp)), ((b 6), .inl (kk 2, 2, .inl ik)), ((b 7), .inl (kk 0, 6, .inl z.2.2.2))] : va_W)) eS.symm) hD) hS (congrArg (fun z : Int32 × (Nat → Int32) × (Nat → Int32) × (Nat → Int32) => z.1) eS) dX8_runScript_69
    · have eS := eS.trans (if_neg c_42)
      refine lv_lload_n hx hb dX8_runScript_45 rfl (lv_at hl 2 rfl) ?_
      refine lv_lconst (v := 0) hx hb dX8_runScript_46 rfl ?_
      refine lv_lload hx hb dX8_runScript_47 (lv_at hl 3 rfl) ?_
      refine lv_lconst (v := 1) hx hb dX8_runScript_49 rfl ?_
      refine lv_lsub hx hb dX8_runScript_50 ?_
      refine k_goI (k_runS (rest := [.ref h]) (As := [.long sc, .long 0, .long (al - 1)]) hx hb hml hown hts hK hP hD hS hA hE hl.1 (c_X8_in l G kk sc 0 (al - 1) ) sl_X8_40 ⟨Nat.le_of_ble_eq_true rfl, Nat.le_of_ble_eq_true rfl, rfl, rfl⟩ [] rfl rfl ⟨Nat.zero_le _, Nat.zero_le _⟩ rfl (Nat.le_of_ble_eq_true rfl) dX8_runScript_51) hP hD hS hA [] rfl ads0 (fun H locs hP hD hS => ?_)
      replace hP : va_P G vwCl ([(h, .inr (8, moF b q)), ((b 1), .inl (kk 0, 120, .inl tx)), ((b 2), .inl (kk 0, 64, .inl f)), ((b 3), .inl (kk 0, 64, .inl ft)), ((b 4), .inl (kk 0, 896, .inl dy)), ((b 5), .inl (kk 0, 128, .inl kp)), ((b 6), .inl (kk 2, 2, .inl ik)), ((b 7), .inl (kk 0, 6, .inl jb))]) H := hP
      replace hD : va_D A ([(h, .inr (8, moF b q)), ((b 1), .inl (kk 0, 120, .inl tx)), ((b 2), .inl (kk 0, 64, .inl f)), ((b 3), .inl (kk 0, 64, .inl ft)), ((b 4), .inl (kk 0, 896, .inl dy)), ((b 5), .inl (kk 0, 128, .inl kp)), ((b 6), .inl (kk 2, 2, .inl ik)), ((b 7), .inl (kk 0, 6, .inl jb))]) := hD
      refine lv_if_eq (tgt := 61) hx hb dX8_runScript_54 (by decide) (fun c_54 => ?_) (fun c_54 => ?_)
      · have eS := eS.trans (if_pos c_54)
        refine lv_iconst (v := 1) hx hb dX8_runScript_61 (by decide) ?_
        refine k_goI (k_runV (rest := []) (As := [.int 1]) hx hb hml hown hts hK hP hD hS hA hE hl.1 (c_X8_refused9 l G kk h b q 1) vl_X8_119 rfl rfl rfl ⟨Nat.le_of_ble_eq_true rfl, Nat.le_of_ble_eq_true rfl, rfl, rfl⟩ [0] rfl rfl ⟨Nat.zero_le _, Nat.zero_le _⟩ rfl (Nat.le_of_ble_eq_true rfl) dX8_runScript_62) hP hD hS hA [0] rfl ads1 (fun H locs hP hD hS => ?_)
        replace hP : va_P G vwCl ([(h, .inr (8, moF b (upd q 0 1))), ((b 1), .inl (kk 0, 120, .inl tx)), ((b 2), .inl (kk 0, 64, .inl f)), ((b 3), .inl (kk 0, 64, .inl ft)), ((b 4), .inl (kk 0, 896, .inl dy)), ((b 5), .inl (kk 0, 128, .inl kp)), ((b 6), .inl (kk 2, 2, .inl ik)), ((b 7), .inl (kk 0, 6, .inl jb))]) H := hP
        replace hD : va_D A ([(h, .inr (8, moF b (upd q 0 1))), ((b 1), .inl (kk 0, 120, .inl tx)), ((b 2), .inl (kk 0, 64, .inl f)), ((b 3), .inl (kk 0, 64, .inl ft)), ((b 4), .inl (kk 0, 896, .inl dy)), ((b 5), .inl (kk 0, 128, .inl kp)), ((b 6), .inl (kk 2, 2, .inl ik)), ((b 7), .inl (kk 0, 6, .inl jb))]) := hD
        refine top_eq (y := 1) (by decide) ?_
        refine lv_if_eq (tgt := 70) hx hb dX8_runScript_65 (by decide) (fun c_65 => absurd c_65 (by decide)) (fun c_65 => ?_)
        refine lv_iconst (v := 0) hx hb dX8_runScript_68 (by decide) ?_
        exact fin_i hx hb hr hlocks hK (vP_eq (congrArg (fun z : Int32 × (Nat → Int32) × (Nat → Int32) × (Nat → Int32) => ([(h, .inr (8, moF b z.2.1)), ((b 1), .inl (kk 0, 120, .inl tx)), ((b 2), .inl (kk 0, 64, .inl f)), ((b 3), .inl (kk 0, 64, .inl z.2.2.1)), ((b 4), .inl (kk 0, 896, .inl dy)), ((b 5), .inl (kk 0, 128, .inl kp)), ((b 6), .inl (kk 2, 2, .inl ik)), ((b 7), .inl (kk 0, 6, .inl z.2.2.2))] : va_W)) eS.symm) hP) (vD_eq (congrArg (fun z : Int32 × (Nat → Int32) × (Nat → Int32) × (Nat → Int32) => ([(h, .inr (8, moF b z.2.1)), ((b 1), .inl (kk 0, 120, .inl tx)), ((b 2), .inl (kk 0, 64, .inl f)), ((b 3), .inl (kk 0, 64, .inl z.2.2.1)), ((b 4), .inl (kk 0, 896, .inl dy)), ((b 5), .inl (kk 0, 128, .inl kp)), ((b 6), .inl (kk 2, 2, .inl ik)), ((b 7), .inl (kk 0, 6, .inl z.2.2.2))] : va_W)) eS.symm) hD) hS (congrArg (fun z : Int32 × (Nat → Int32) × (Nat → Int32) × (Nat → Int32) => z.1) eS) dX8_runScript_69
      · have eS := eS.trans (if_neg c_54)
        refine lv_iconst (v := 0) hx hb dX8_runScript_57 (by decide) ?_
        refine lv_goto (tgt := 62) hx hb dX8_runScript_58 (by decide) ?_
        refine k_goI (k_runV (rest := []) (As := [.int 0]) hx hb hml hown hts hK hP hD hS hA hE hl.1 (c_X8_refused9 l G kk h b q 0) vl_X8_119 rfl rfl rfl ⟨Nat.le_of_ble_eq_true rfl, Nat.le_of_ble_eq_true rfl, rfl, rfl⟩ [0] rfl rfl ⟨Nat.zero_le _, Nat.zero_le _⟩ rfl (Nat.le_of_ble_eq_true rfl) dX8_runScript_62) hP hD hS hA [0] rfl ads1 (fun H locs hP hD hS => ?_)
        replace hP : va_P G vwCl ([(h, .inr (8, moF b (upd q 0 0))), ((b 1), .inl (kk 0, 120, .inl tx)), ((b 2), .inl (kk 0, 64, .inl f)), ((b 3), .inl (kk 0, 64, .inl ft)), ((b 4), .inl (kk 0, 896, .inl dy)), ((b 5), .inl (kk 0, 128, .inl kp)), ((b 6), .inl (kk 2, 2, .inl ik)), ((b 7), .inl (kk 0, 6, .inl jb))]) H := hP
        replace hD : va_D A ([(h, .inr (8, moF b (upd q 0 0))), ((b 1), .inl (kk 0, 120, .inl tx)), ((b 2), .inl (kk 0, 64, .inl f)), ((b 3), .inl (kk 0, 64, .inl ft)), ((b 4), .inl (kk 0, 896, .inl dy)), ((b 5), .inl (kk 0, 128, .inl kp)), ((b 6), .inl (kk 2, 2, .inl ik)), ((b 7), .inl (kk 0, 6, .inl jb))]) := hD
        refine top_eq (y := 0) (by decide) ?_
        refine lv_if_eq (tgt := 70) hx hb dX8_runScript_65 (by decide) (fun c_65 => ?_) (fun c_65 => absurd (by decide) c_65)
        obtain ⟨hx1, hx2⟩ := in_p (n := 3) c_42 rfl
        have haly := p5_y hal hj3 hj1 hj2 c_42
        refine lv_aload_n hx hb dX8_runScript_70 rfl (lv_at hl 0 rfl) ?_
        refine r_get (v := .ref (b 2)) hx hb hts hown hK hP fl_X8_13 0 rfl rfl dX8_runScript_71 ?_
        refine lv_iconst (v := 0) hx hb dX8_runScript_74 (by decide) ?_
        refine lv_aload_n hx hb dX8_runScript_75 rfl (lv_at hl 0 rfl) ?_
        refine r_get (v := .ref (b 3)) hx hb hts hown hK hP fl_X8_16 0 rfl rfl dX8_runScript_76 ?_
        refine lv_iconst (v := 0) hx hb dX8_runScript_79 (by decide) ?_
        refine k_goV (k_runS (rest := []) (As := [.ref (b 2), .int 0, .ref (b 3), .int 0]) hx hb hml hown hts hK hP hD hS hA hE hl.1 (c_X8_copyState l G kk (b 2) 0 (b 3) 0 64 64 f ft (by omega) (by omega) (by omega) (by omega)) sl_X8_175 ⟨Nat.le_of_ble_eq_true rfl, Nat.le_of_ble_eq_true rfl, rfl, rfl⟩ [2, 3] rfl rfl ⟨Nat.zero_le _, Nat.zero_le _⟩ rfl (Nat.le_of_ble_eq_true rfl) dX8_runScript_80) hP hD hS hA [2, 3] rfl ads2 (fun H locs hP hD hS => ?_)
        replace hP : va_P G vwCl ([(h, .inr (8, moF b (upd q 0 0))), ((b 1), .inl (kk 0, 120, .inl tx)), ((b 2), .inl (kk 0, 64, .inl f)), ((b 3), .inl (kk 0, 64, .inl (sX8_copyState 0 0 f ft))), ((b 4), .inl (kk 0, 896, .inl dy)), ((b 5), .inl (kk 0, 128, .inl kp)), ((b 6), .inl (kk 2, 2, .inl ik)), ((b 7), .inl (kk 0, 6, .inl jb))]) H := hP
        replace hD : va_D A ([(h, .inr (8, moF b (upd q 0 0))), ((b 1), .inl (kk 0, 120, .inl tx)), ((b 2), .inl (kk 0, 64, .inl f)), ((b 3), .inl (kk 0, 64, .inl (sX8_copyState 0 0 f ft))), ((b 4), .inl (kk 0, 896, .inl dy)), ((b 5), .inl (kk 0, 128, .inl kp)), ((b 6), .inl (kk 2, 2, .inl ik)), ((b 7), .inl (kk 0, 6, .inl jb))]) := hD
        have eS : sX8_runScript q tx f ft dy kp ik jb n y sc = sX8_runScript_z_1 q tx f ft dy kp ik jb n y sc al j (sX8_copyState 0 0 f ft) := eS
        have hz_1 := (cs_0 f ft)
        generalize sX8_copyState 0 0 f ft = z_1 at hP hD eS hz_1 ⊢
        have hf0 : z_1 0 = nI n := hz_1.trans hn
        refine lv_iconst (v := 0) hx hb dX8_runScript_83 (by decide) ?_
        refine lv_istore (lv' := [(6, .int 0), (0, .ref h), (1, .int y), (2, .long sc), (4, .long al)]) hx hb dX8_runScript_84 hl (by decide) rfl (fun ls hl => ?_)
        have L_5 : ∀ (d : Nat) (i : Nat) (al1 : Int64) (q1 : Nat → Int32) (jb1 : Nat → Int32) (ft1 : Nat → Int32) (hd : i + d = y.toNatClampNeg) (hf : ft1 0 = nI n) (hal1 : al1 = P5 (y.toNatClampNeg - i)) (eS : sX8_runScript q tx f ft dy kp ik jb n y sc = lp_X8_runScript_86 q tx f ft dy kp ik jb n y sc al j z_1 d i al1 q1 jb1 ft1) (H : Heap) (locs : List Loc) (ls : Array Slot) (hP : va_P G vwCl ([(h, .inr (8, moF b q1)), ((b 1), .inl (kk 0, 120, .inl tx)), ((b 2), .inl (kk 0, 64, .inl f)), ((b 3), .inl (kk 0, 64, .inl ft1)), ((b 4), .inl (kk 0, 896, .inl dy)), ((b 5), .inl (kk 0, 128, .inl kp)), ((b 6), .inl (kk 2, 2, .inl ik)), ((b 7), .inl (kk 0, 6, .inl jb1))]) H) (hD : va_D A ([(h, .inr (8, moF b q1)), ((b 1), .inl (kk 0, 120, .inl tx)), ((b 2), .inl (kk 0, 64, .inl f)), ((b 3), .inl (kk 0, 64, .inl ft1)), ((b 4), .inl (kk 0, 896, .inl dy)), ((b 5), .inl (kk 0, 128, .inl kp)), ((b 6), .inl (kk 2, 2, .inl ik)), ((b 7), .inl (kk 0, 6, .inl jb1))])) (hS : va_S A s.heap H locs) (hl : lv_has ls 8 [(0, .ref h), (1, .int y), (2, .long sc), (6, .int (nI i)), (4, .long al1)]), GO p l e (rmO 7 164) s m ([.ref h, .int y, .long sc] : List Value).toArray below meth c A (QI G kk ([(h, .inr (8, moF b ((sX8_runScript q tx f ft dy kp ik jb n y sc).2.1))), ((b 1), .inl (kk 0, 120, .inl tx)), ((b 2), .inl (kk 0, 64, .inl f)), ((b 3), .inl (kk 0, 64, .inl ((sX8_runScript q tx f ft dy kp ik jb n y sc).2.2.1))), ((b 4), .inl (kk 0, 896, .inl dy)), ((b 5), .inl (kk 0, 128, .inl kp)), ((b 6), .inl (kk 2, 2, .inl ik)), ((b 7), .inl (kk 0, 6, .inl ((sX8_runScript q tx f ft dy kp ik jb n y sc).2.2.2)))]) ((sX8_runScript q tx f ft dy kp ik jb n y sc).1)) H locs (F0 m 86 ls []) := by
          intro d
          induction d with
          | zero =>
            intro i al1 q1 jb1 ft1 hd hf hal1 eS H locs ls hP hD hS hl
            refine lv_iload hx hb dX8_runScript_86 (lv_at hl 3 rfl) ?_
            refine lv_iload_n hx hb dX8_runScript_88 rfl (lv_at hl 1 rfl) ?_
            refine lv_icmp_ge (tgt := 139) hx hb dX8_runScript_89 (by decide) (fun c_89 => ?_) (fun c_89 => absurd (cl_le hx1 (by omega) (by have := @cl_b y; omega)) c_89)
            refine lv_iconst (v := (-1)) hx hb dX8_runScript_139 (by decide) ?_
            exact fin_i hx hb hr hlocks hK (vP_eq (congrArg (fun z : Int32 × (Nat → Int32) × (Nat → Int32) × (Nat → Int32) => ([(h, .inr (8, moF b z.2.1)), ((b 1), .inl (kk 0, 120, .inl tx)), ((b 2), .inl (kk 0, 64, .inl f)), ((b 3), .inl (kk 0, 64, .inl z.2.2.1)), ((b 4), .inl (kk 0, 896, .inl dy)), ((b 5), .inl (kk 0, 128, .inl kp)), ((b 6), .inl (kk 2, 2, .inl ik)), ((b 7), .inl (kk 0, 6, .inl z.2.2.2))] : va_W)) eS.symm) hP) (vD_eq (congrArg (fun z : Int32 × (Nat → Int32) × (Nat → Int32) × (Nat → Int32) => ([(h, .inr (8, moF b z.2.1)), ((b 1), .inl (kk 0, 120, .inl tx)), ((b 2), .inl (kk 0, 64, .inl f)), ((b 3), .inl (kk 0, 64, .inl z.2.2.1)), ((b 4), .inl (kk 0, 896, .inl dy)), ((b 5), .inl (kk 0, 128, .inl kp)), ((b 6), .inl (kk 2, 2, .inl ik)), ((b 7), .inl (kk 0, 6, .inl z.2.2.2))] : va_W)) eS.symm) hD) hS (congrArg (fun z : Int32 × (Nat → Int32) × (Nat → Int32) × (Nat → Int32) => z.1) eS) dX8_runScript_140
          | succ d ih =>
            intro i al1 q1 jb1 ft1 hd hf hal1 eS H locs ls hP hD hS hl
            refine lv_iload hx hb dX8_runScript_86 (lv_at hl 3 rfl) ?_
            refine lv_iload_n hx hb dX8_runScript_88 rfl (lv_at hl 1 rfl) ?_
            refine lv_icmp_ge (tgt := 139) hx hb dX8_runScript_89 (by decide) (fun c_89 => absurd c_89 (cl_gt hx1 (by omega) cl_b)) (fun c_89 => ?_)
            refine lv_lload hx hb dX8_runScript_92 (lv_at hl 4 rfl) ?_
            refine lv_ldc2 (v := 100000) hx hb hown (hts _ kl_X8_212) dX8_runScript_94 ?_
            refine lv_ldiv hx hb dX8_runScript_97 (by decide) ?_
            refine lv_lstore (lv' := [(4, .long (al1 / 100000)), (0, .ref h), (1, .int y), (2, .long sc), (6, .int (nI i))]) hx hb dX8_runScript_98 hl (by decide) rfl (fun ls hl => ?_)
            refine lv_lload_n hx hb dX8_runScript_100 rfl (lv_at hl 3 rfl) ?_
            refine lv_lload hx hb dX8_runScript_101 (lv_at hl 0 rfl) ?_
            refine lv_ldiv hx hb dX8_runScript_103 (p5_n hal1 (by omega) (by omega)) ?_
            refine lv_ldc2 (v := 100000) hx hb hown (hts _ kl_X8_212) dX8_runScript_104 ?_
            refine lv_lrem hx hb dX8_runScript_107 (by decide) ?_
            refine lv_l2i (v := (((sc / (al1 / 100000)) - (sc / (al1 / 100000)) / 100000 * 100000).toInt32)) hx hb dX8_runScript_108 rfl ?_
            refine lv_istore (lv' := [(7, .int (((sc / (al1 / 100000)) - (sc / (al1 / 100000)) / 100000 * 100000).toInt32)), (4, .long (al1 / 100000)), (0, .ref h), (1, .int y), (2, .long sc), (6, .int (nI i))]) hx hb dX8_runScript_109 hl (by decide) rfl (fun ls hl => ?_)
            refine lv_aload_n hx hb dX8_runScript_111 rfl (lv_at hl 2 rfl) ?_
            refine lv_iload hx hb dX8_runScript_112 (lv_at hl 0 rfl) ?_
            refine lv_sipush (v := 10000) hx hb dX8_runScript_114 (by decide) ?_
            refine lv_idiv hx hb dX8_runScript_117 (by decide) ?_
            refine lv_iload hx hb dX8_runScript_118 (lv_at hl 0 rfl) ?_
            refine lv_sipush (v := 10000) hx hb dX8_runScript_120 (by decide) ?_
            refine lv_irem hx hb dX8_runScript_123 (by decide) ?_
            refine k_goI (k_runV (rest := []) (As := [.int ((((sc / (al1 / 100000)) - (sc / (al1 / 100000)) / 100000 * 100000).toInt32) / 10000), .int ((((sc / (al1 / 100000)) - (sc / (al1 / 100000)) / 100000 * 100000).toInt32) - (((sc / (al1 / 100000)) - (sc / (al1 / 100000)) / 100000 * 100000).toInt32) / 10000 * 10000)]) hx hb hml hown hts hK hP hD hS hA hE hl.1 (c_X8_command l G kk h b q1 tx f ft1 dy kp ik jb1 ((((sc / (al1 / 100000)) - (sc / (al1 / 100000)) / 100000 * 100000).toInt32) / 10000) ((((sc / (al1 / 100000)) - (sc / (al1 / 100000)) / 100000 * 100000).toInt32) - (((sc / (al1 / 100000)) - (sc / (al1 / 100000)) / 100000 * 100000).toInt32) / 10000 * 10000) n hf h6) vl_X8_216 rfl rfl rfl ⟨Nat.le_of_ble_eq_true rfl, Nat.le_of_ble_eq_true rfl, rfl, rfl⟩ [0, 1, 2, 3, 4, 5, 6, 7] rfl rfl ⟨Nat.zero_le _, Nat.zero_le _⟩ rfl (Nat.le_of_ble_eq_true rfl) dX8_runScript_124) hP hD hS hA [0, 1, 2, 3, 4, 5, 6, 7] rfl ads8 (fun H locs hP hD hS => ?_)
            replace hP : va_P G vwCl ([(h, .inr (8, moF b ((sX8_command q1 tx f ft1 dy kp ik jb1 ((((sc / (al1 / 100000)) - (sc / (al1 / 100000)) / 100000 * 100000).toInt32) / 10000) ((((sc / (al1 / 100000)) - (sc / (al1 / 100000)) / 100000 * 100000).toInt32) - (((sc / (al1 / 100000)) - (sc / (al1 / 100000)) / 100000 * 100000).toInt32) / 10000 * 10000) n).2.1))), ((b 1), .inl (kk 0, 120, .inl tx)), ((b 2), .inl (kk 0, 64, .inl f)), ((b 3), .inl (kk 0, 64, .inl ((sX8_command q1 tx f ft1 dy kp ik jb1 ((((sc / (al1 / 100000)) - (sc / (al1 / 100000)) / 100000 * 100000).toInt32) / 10000) ((((sc / (al1 / 100000)) - (sc / (al1 / 100000)) / 100000 * 100000).toInt32) - (((sc / (al1 / 100000)) - (sc / (al1 / 100000)) / 100000 * 100000).toInt32) / 10000 * 10000) n).2.2.1))), ((b 4), .inl (kk 0, 896, .inl dy)), ((b 5), .inl (kk 0, 128, .inl kp)), ((b 6), .inl (kk 2, 2, .inl ik)), ((b 7), .inl (kk 0, 6, .inl ((sX8_command q1 tx f ft1 dy kp ik jb1 ((((sc / (al1 / 100000)) - (sc / (al1 / 100000)) / 100000 * 100000).toInt32) / 10000) ((((sc / (al1 / 100000)) - (sc / (al1 / 100000)) / 100000 * 100000).toInt32) - (((sc / (al1 / 100000)) - (sc / (al1 / 100000)) / 100000 * 100000).toInt32) / 10000 * 10000) n).2.2.2)))]) H := hP
            replace hD : va_D A ([(h, .inr (8, moF b ((sX8_command q1 tx f ft1 dy kp ik jb1 ((((sc / (al1 / 100000)) - (sc / (al1 / 100000)) / 100000 * 100000).toInt32) / 10000) ((((sc / (al1 / 100000)) - (sc / (al1 / 100000)) / 100000 * 100000).toInt32) - (((sc / (al1 / 100000)) - (sc / (al1 / 100000)) / 100000 * 100000).toInt32) / 10000 * 10000) n).2.1))), ((b 1), .inl (kk 0, 120, .inl tx)), ((b 2), .inl (kk 0, 64, .inl f)), ((b 3), .inl (kk 0, 64, .inl ((sX8_command q1 tx f ft1 dy kp ik jb1 ((((sc / (al1 / 100000)) - (sc / (al1 / 100000)) / 100000 * 100000).toInt32) / 10000) ((((sc / (al1 / 100000)) - (sc / (al1 / 100000)) / 100000 * 100000).toInt32) - (((sc / (al1 / 100000)) - (sc / (al1 / 100000)) / 100000 * 100000).toInt32) / 10000 * 10000) n).2.2.1))), ((b 4), .inl (kk 0, 896, .inl dy)), ((b 5), .inl (kk 0, 128, .inl kp)), ((b 6), .inl (kk 2, 2, .inl ik)), ((b 7), .inl (kk 0, 6, .inl ((sX8_command q1 tx f ft1 dy kp ik jb1 ((((sc / (al1 / 100000)) - (sc / (al1 / 100000)) / 100000 * 100000).toInt32) / 10000) ((((sc / (al1 / 100000)) - (sc / (al1 / 100000)) / 100000 * 100000).toInt32) - (((sc / (al1 / 100000)) - (sc / (al1 / 100000)) / 100000 * 100000).toInt32) / 10000 * 10000) n).2.2.2)))]) := hD
            have eS : sX8_runScript q tx f ft dy kp ik jb n y sc = (fun (z_2 : Int32 × (Nat → Int32) × (Nat → Int32) × (Nat → Int32)) => (if z_2.1 = 0 then ((nI i), z_2.2.1, z_2.2.2.1, z_2.2.2.2) else (lp_X8_runScript_86 q tx f ft dy kp ik jb n y sc al j z_1 d (i + 1) (al1 / 100000) z_2.2.1 z_2.2.2.2 z_2.2.2.1))) (sX8_command q1 tx f ft1 dy kp ik jb1 ((((sc / (al1 / 100000)) - (sc / (al1 / 100000)) / 100000 * 100000).toInt32) / 10000) ((((sc / (al1 / 100000)) - (sc / (al1 / 100000)) / 100000 * 100000).toInt32) - (((sc / (al1 / 100000)) - (sc / (al1 / 100000)) / 100000 * 100000).toInt32) / 10000 * 10000) n) := eS
            have hz_2 := cmd_0 h6 q1 tx f ft1 dy kp ik jb1 ((((sc / (al1 / 100000)) - (sc / (al1 / 100000)) / 100000 * 100000).toInt32) / 10000) ((((sc / (al1 / 100000)) - (sc / (al1 / 100000)) / 100000 * 100000).toInt32) - (((sc / (al1 / 100000)) - (sc / (al1 / 100000)) / 100000 * 100000).toInt32) / 10000 * 10000)
            generalize sX8_command q1 tx f ft1 dy kp ik jb1 ((((sc / (al1 / 100000)) - (sc / (al1 / 100000)) / 100000 * 100000).toInt32) / 10000) ((((sc / (al1 / 100000)) - (sc / (al1 / 100000)) / 100000 * 100000).toInt32) - (((sc / (al1 / 100000)) - (sc / (al1 / 100000)) / 100000 * 100000).toInt32) / 10000 * 10000) n = z_2 at hP hD eS hz_2 ⊢
            refine lv_if_ne (tgt := 133) hx hb dX8_runScript_127 (by decide) (fun c_127 => ?_) (fun c_127 => ?_)
            · have eS := eS.trans (if_neg c_127)
              refine lv_iinc (v := (nI (i + 1))) (lv' := [(6, .int (nI (i + 1))), (7, .int (((sc / (al1 / 100000)) - (sc / (al1 / 100000)) / 100000 * 100000).toInt32)), (4, .long (al1 / 100000)), (0, .ref h), (1, .int y), (2, .long sc)]) hx hb dX8_runScript_133 hl (k := 5) rfl (nI_add i 1) (by decide) rfl (fun ls hl => ?_)
              refine lv_goto (tgt := 86) hx hb dX8_runScript_136 (by decide) ?_
              exact ih (i + 1) (al1 / 100000) z_2.2.1 z_2.2.2.2 z_2.2.2.1 (by omega) (hz_2.trans hf) (p5_d hal1 (by omega) (by omega)) eS _ _ ls hP hD hS (lv_sub hl [3, 4, 5, 0, 2] rfl)
            · have eS := eS.trans (if_pos c_127)
              refine lv_iload hx hb dX8_runScript_130 (lv_at hl 5 rfl) ?_
              exact fin_i hx hb hr hlocks hK (vP_eq (congrArg (fun z : Int32 × (Nat → Int32) × (Nat → Int32) × (Nat → Int32) => ([(h, .inr (8, moF b z.2.1)), ((b 1), .inl (kk 0, 120, .inl tx)), ((b 2), .inl (kk 0, 64, .inl f)), ((b 3), .inl (kk 0, 64, .inl z.2.2.1)), ((b 4), .inl (kk 0, 896, .inl dy)), ((b 5), .inl (kk 0, 128, .inl kp)), ((b 6), .inl (kk 2, 2, .inl ik)), ((b 7), .inl (kk 0, 6, .inl z.2.2.2))] : va_W)) eS.symm) hP) (vD_eq (congrArg (fun z : Int32 × (Nat → Int32) × (Nat → Int32) × (Nat → Int32) => ([(h, .inr (8, moF b z.2.1)), ((b 1), .inl (kk 0, 120, .inl tx)), ((b 2), .inl (kk 0, 64, .inl f)), ((b 3), .inl (kk 0, 64, .inl z.2.2.1)), ((b 4), .inl (kk 0, 896, .inl dy)), ((b 5), .inl (kk 0, 128, .inl kp)), ((b 6), .inl (kk 2, 2, .inl ik)), ((b 7), .inl (kk 0, 6, .inl z.2.2.2))] : va_W)) eS.symm) hD) hS (congrArg (fun z : Int32 × (Nat → Int32) × (Nat → Int32) × (Nat → Int32) => z.1) eS) dX8_runScript_132
        exact L_5 y.toNatClampNeg 0 al (upd q 0 0) jb z_1 (Nat.zero_add _) hf0 haly eS _ _ ls hP hD hS (lv_sub hl [1, 2, 3, 0, 4] rfl)
  have L_3 : ∀ (d : Nat) (i : Nat) (al : Int64) (hd : i + d = 3) (hal : al = P5 i) (hk : i = 0 ∨ nI (i - 1) < y) (eS : sX8_runScript q tx f ft dy kp ik jb n y sc = lp_X8_runScript_6 q tx f ft dy kp ik jb n y sc d i al) (H : Heap) (locs : List Loc) (ls : Array Slot) (hP : va_P G vwCl ([(h, .inr (8, moF b q)), ((b 1), .inl (kk 0, 120, .inl tx)), ((b 2), .inl (kk 0, 64, .inl f)), ((b 3), .inl (kk 0, 64, .inl ft)), ((b 4), .inl (kk 0, 896, .inl dy)), ((b 5), .inl (kk 0, 128, .inl kp)), ((b 6), .inl (kk 2, 2, .inl ik)), ((b 7), .inl (kk 0, 6, .inl jb))]) H) (hD : va_D A ([(h, .inr (8, moF b q)), ((b 1), .inl (kk 0, 120, .inl tx)), ((b 2), .inl (kk 0, 64, .inl f)), ((b 3), .inl (kk 0, 64, .inl ft)), ((b 4), .inl (kk 0, 896, .inl dy)), ((b 5), .inl (kk 0, 128, .inl kp)), ((b 6), .inl (kk 2, 2, .inl ik)), ((b 7), .inl (kk 0, 6, .inl jb))])) (hS : va_S A s.heap H locs) (hl : lv_has ls 8 [(0, .ref h), (1, .int y), (2, .long sc), (4, .long al), (6, .int (nI i))]), GO p l e (rmO 7 164) s m ([.ref h, .int y, .long sc] : List Value).toArray below meth c A (QI G kk ([(h, .inr (8, moF b ((sX8_runScript q tx f ft dy kp ik jb n y sc).2.1))), ((b 1), .inl (kk 0, 120, .inl tx)), ((b 2), .inl (kk 0, 64, .inl f)), ((b 3), .inl (kk 0, 64, .inl ((sX8_runScript q tx f ft dy kp ik jb n y sc).2.2.1))), ((b 4), .inl (kk 0, 896, .inl dy)), ((b 5), .inl (kk 0, 128, .inl kp)), ((b 6), .inl (kk 2, 2, .inl ik)), ((b 7), .inl (kk 0, 6, .inl ((sX8_runScript q tx f ft dy kp ik jb n y sc).2.2.2)))]) ((sX8_runScript q tx f ft dy kp ik jb n y sc).1)) H locs (F0 m 6 ls []) := by
    intro d
    induction d with
    | zero =>
      intro i al hd hal hk eS H locs ls hP hD hS hl
      refine lv_iload hx hb dX8_runScript_6 (lv_at hl 4 rfl) ?_
      refine lv_iload_n hx hb dX8_runScript_8 rfl (lv_at hl 1 rfl) ?_
      have J_6 : ∀  (eS : sX8_runScript q tx f ft dy kp ik jb n y sc = sX8_runScript_j32 q tx f ft dy kp ik jb n y sc i al ) (H : Heap) (locs : List Loc) (ls : Array Slot) (hP : va_P G vwCl ([(h, .inr (8, moF b q)), ((b 1), .inl (kk 0, 120, .inl tx)), ((b 2), .inl (kk 0, 64, .inl f)), ((b 3), .inl (kk 0, 64, .inl ft)), ((b 4), .inl (kk 0, 896, .inl dy)), ((b 5), .inl (kk 0, 128, .inl kp)), ((b 6), .inl (kk 2, 2, .inl ik)), ((b 7), .inl (kk 0, 6, .inl jb))]) H) (hD : va_D A ([(h, .inr (8, moF b q)), ((b 1), .inl (kk 0, 120, .inl tx)), ((b 2), .inl (kk 0, 64, .inl f)), ((b 3), .inl (kk 0, 64, .inl ft)), ((b 4), .inl (kk 0, 896, .inl dy)), ((b 5), .inl (kk 0, 128, .inl kp)), ((b 6), .inl (kk 2, 2, .inl ik)), ((b 7), .inl (kk 0, 6, .inl jb))])) (hS : va_S A s.heap H locs) (hl : lv_has ls 8 [(0, .ref h), (1, .int y), (2, .long sc), (4, .long al), (6, .int (nI i))]), GO p l e (rmO 7 164) s m ([.ref h, .int y, .long sc] : List Value).toArray below meth c A (QI G kk ([(h, .inr (8, moF b ((sX8_runScript q tx f ft dy kp ik jb n y sc).2.1))), ((b 1), .inl (kk 0, 120, .inl tx)), ((b 2), .inl (kk 0, 64, .inl f)), ((b 3), .inl (kk 0, 64, .inl ((sX8_runScript q tx f ft dy kp ik jb n y sc).2.2.1))), ((b 4), .inl (kk 0, 896, .inl dy)), ((b 5), .inl (kk 0, 128, .inl kp)), ((b 6), .inl (kk 2, 2, .inl ik)), ((b 7), .inl (kk 0, 6, .inl ((sX8_runScript q tx f ft dy kp ik jb n y sc).2.2.2)))]) ((sX8_runScript q tx f ft dy kp ik jb n y sc).1)) H locs (F0 m 32 ls []) := by
        intro  eS H locs ls hP hD hS hl
        exact X_4 al i hal (by omega) hk (by first | exact Or.inr c_9 | exact Or.inl (by omega)) eS _ _ ls hP hD hS (lv_sub hl [0, 1, 2, 3] rfl)
      refine lv_icmp_ge (tgt := 32) hx hb dX8_runScript_9 (by decide) (fun c_9 => ?_) (fun c_9 => ?_)
      · exact J_6  eS _ _ ls hP hD hS (lv_sub hl [0, 1, 2, 3, 4] rfl)
      · refine lv_iload hx hb dX8_runScript_12 (lv_at hl 4 rfl) ?_
        refine lv_iconst (v := 3) hx hb dX8_runScript_14 (by decide) ?_
        refine lv_icmp_ge (tgt := 32) hx hb dX8_runScript_15 (by decide) (fun c_15 => ?_) (fun c_15 => absurd (nI_le (a := 3) (b := i) (by omega) (by omega)) c_15)
        exact J_6  eS _ _ ls hP hD hS (lv_sub hl [0, 1, 2, 3, 4] rfl)
    | succ d ih =>
      intro i al hd hal hk eS H locs ls hP hD hS hl
      refine lv_iload hx hb dX8_runScript_6 (lv_at hl 4 rfl) ?_
      refine lv_iload_n hx hb dX8_runScript_8 rfl (lv_at hl 1 rfl) ?_
      refine lv_icmp_ge (tgt := 32) hx hb dX8_runScript_9 (by decide) (fun c_9 => ?_) (fun c_9 => ?_)
      · have eS := eS.trans (if_pos c_9)
        exact X_4 al i hal (by omega) hk (by first | exact Or.inr c_9 | exact Or.inl (by omega)) eS _ _ ls hP hD hS (lv_sub hl [0, 1, 2, 3] rfl)
      · have eS := eS.trans (if_neg c_9)
        refine lv_iload hx hb dX8_runScript_12 (lv_at hl 4 rfl) ?_
        refine lv_iconst (v := 3) hx hb dX8_runScript_14 (by decide) ?_
        refine lv_icmp_ge (tgt := 32) hx hb dX8_runScript_15 (by decide) (fun c_15 => absurd c_15 (nI_ge (a := i) (b := 3) (by omega) (by omega))) (fun c_15 => ?_)
        refine lv_lload hx hb dX8_runScript_18 (lv_at hl 3 rfl) ?_
        refine lv_ldc2 (v := 100000) hx hb hown (hts _ kl_X8_212) dX8_runScript_20 ?_
        refine lv_lmul hx hb dX8_runScript_23 ?_
        refine lv_lstore (lv' := [(4, .long (al * 100000)), (0, .ref h), (1, .int y), (2, .long sc), (6, .int (nI i))]) hx hb dX8_runScript_24 hl (by decide) rfl (fun ls hl => ?_)
        refine lv_iinc (v := (nI (i + 1))) (lv' := [(6, .int (nI (i + 1))), (4, .long (al * 100000)), (0, .ref h), (1, .int y), (2, .long sc)]) hx hb dX8_runScript_26 hl (k := 4) rfl (nI_add i 1) (by decide) rfl (fun ls hl => ?_)
        refine lv_goto (tgt := 6) hx hb dX8_runScript_29 (by decide) ?_
        exact ih (i + 1) (al * 100000) (by omega) (p5_s hal (by omega)) (Or.inr (Int32.not_le.mp c_9)) eS _ _ ls hP hD hS (lv_sub hl [2, 3, 4, 1, 0] rfl)
  exact L_3 3 0 1 (Nat.zero_add _) rfl (Or.inl rfl) eS _ _ ls hP hD hS (lv_sub hl [2, 3, 4, 1, 0] rfl)
