theorem tu_m {x : Int32} (h : 0 ≤ x.toInt) : 1 + (x / 8 - x / 8 / 15 * 15) = nI (1 + (x / 8 - x / 8 / 15 * 15)).toNatClampNeg := by
  refine nn_e ?_
  have h2 := x.toInt_lt
  have e8 : (8 : Int32).toInt = 8 := rfl
  have e1 : (1 : Int32).toInt = 1 := rfl
  have hq : (x / 8).toInt = x.toInt.tdiv 8 := by
    rw [Int32.toInt_div, e8, Int.bmod_eq_of_le]
    · have := Int.tdiv_nonneg (a := x.toInt) (b := 8) h (by decide); omega
    · have := Int.tdiv_le_self (a := x.toInt) 8 h; omega
  obtain ⟨h3, h4, h5⟩ := td15 (x.toInt.tdiv 8)
  have h6 := (ts15 (x.toInt.tdiv 8)).1 (Int.tdiv_nonneg h (by decide))
  rw [Int32.toInt_add, rem15, hq, e1, Int.bmod_eq_of_le] <;> omega
def sX8_command_j378 (q : Nat → Int32) (tx : Nat → Int32) (f : Nat → Int32) (ft : Nat → Int32) (dy : Nat → Int32) (kp : Nat → Int32) (ik : Nat → Int32) (jb : Nat → Int32) (x : Int32) (y : Int32) (n : Nat) (x_1 : Int32) (x_8 : Int32) : Int32 × (Nat → Int32) × (Nat → Int32) × (Nat → Int32) :=
  (if (sX8_isWarm ft ((y / 1000).toNatClampNeg)) = x_8 then (1, q, ft, jb) else (0, q, ft, jb))
def sX8_command_z_7 (q : Nat → Int32) (tx : Nat → Int32) (f : Nat → Int32) (ft : Nat → Int32) (dy : Nat → Int32) (kp : Nat → Int32) (ik : Nat → Int32) (jb : Nat → Int32) (x : Int32) (y : Int32) (n : Nat) (x_1 : Int32) (z_7 : Int32 × (Nat → Int32) × (Nat → Int32)) : Int32 × (Nat → Int32) × (Nat → Int32) × (Nat → Int32) :=
  (if z_7.1 = 0 then (0, z_7.2.1, ft, z_7.2.2) else (1, z_7.2.1, ft, z_7.2.2))
def sX8_command_z_6 (q : Nat → Int32) (tx : Nat → Int32) (f : Nat → Int32) (ft : Nat → Int32) (dy : Nat → Int32) (kp : Nat → Int32) (ik : Nat → Int32) (jb : Nat → Int32) (x : Int32) (y : Int32) (n : Nat) (x_1 : Int32) (z_6 : Int32 × (Nat → Int32)) : Int32 × (Nat → Int32) × (Nat → Int32) × (Nat → Int32) :=
  (if z_6.1 < (-400) then (0, q, z_6.2, jb) else (1, q, z_6.2, jb))
def sX8_command_z_5 (q : Nat → Int32) (tx : Nat → Int32) (f : Nat → Int32) (ft : Nat → Int32) (dy : Nat → Int32) (kp : Nat → Int32) (ik : Nat → Int32) (jb : Nat → Int32) (x : Int32) (y : Int32) (n : Nat) (x_1 : Int32) (z_5 : Int32 × (Nat → Int32) × (Nat → Int32) × (Nat → Int32)) : Int32 × (Nat → Int32) × (Nat → Int32) × (Nat → Int32) :=
  (if z_5.1 < 0 then (0, z_5.2.1, z_5.2.2.2, z_5.2.2.1) else (1, z_5.2.1, z_5.2.2.2, z_5.2.2.1))
def sX8_command_z_4 (q : Nat → Int32) (tx : Nat → Int32) (f : Nat → Int32) (ft : Nat → Int32) (dy : Nat → Int32) (kp : Nat → Int32) (ik : Nat → Int32) (jb : Nat → Int32) (x : Int32) (y : Int32) (n : Nat) (x_1 : Int32) (z_4 : Int32 × (Nat → Int32) × (Nat → Int32) × (Nat → Int32)) : Int32 × (Nat → Int32) × (Nat → Int32) × (Nat → Int32) :=
  (if z_4.1 < 0 then (0, z_4.2.1, z_4.2.2.2, z_4.2.2.1) else (1, z_4.2.1, z_4.2.2.2, z_4.2.2.1))
def sX8_command_z_3 (q : Nat → Int32) (tx : Nat → Int32) (f : Nat → Int32) (ft : Nat → Int32) (dy : Nat → Int32) (kp : Nat → Int32) (ik : Nat → Int32) (jb : Nat → Int32) (x : Int32) (y : Int32) (n : Nat) (x_1 : Int32) (x_2 : Int32) (z_3 : Int32 × (Nat → Int32)) : Int32 × (Nat → Int32) × (Nat → Int32) × (Nat → Int32) :=
  (if z_3.1 < 0 then (0, q, z_3.2, jb) else (1, q, z_3.2, jb))
def sX8_command_j142 (q : Nat → Int32) (tx : Nat → Int32) (f : Nat → Int32) (ft : Nat → Int32) (dy : Nat → Int32) (kp : Nat → Int32) (ik : Nat → Int32) (jb : Nat → Int32) (x : Int32) (y : Int32) (n : Nat) (x_1 : Int32) (x_2 : Int32) : Int32 × (Nat → Int32) × (Nat → Int32) × (Nat → Int32) :=
  (sX8_command_z_3 q tx f ft dy kp ik jb x y n x_1 x_2 (sX8_doorOn ft n ((y / 1000).toNatClampNeg) x_2))
def sX8_command_j43 (q : Nat → Int32) (tx : Nat → Int32) (f : Nat → Int32) (ft : Nat → Int32) (dy : Nat → Int32) (kp : Nat → Int32) (ik : Nat → Int32) (jb : Nat → Int32) (x : Int32) (y : Int32) (n : Nat) (x_1 : Int32) : Int32 × (Nat → Int32) × (Nat → Int32) × (Nat → Int32) :=
  (if x = 1 then (if (sX8_isRoom ft (y / 1000)) = 0 then (0, q, ft, jb) else (if 2 ≤ ((y / 100) - (y / 100) / 10 * 10) then (0, q, ft, jb) else (if (y - y / 100 * 100) = 0 then (sX8_command_j142 q tx f ft dy kp ik jb x y n x_1 (if ((y / 100) - (y / 100) / 10 * 10) = 1 then 1 else 0)) else (0, q, ft, jb)))) else (if x = 2 then (if (sX8_in (y.toInt64) 1 60) = 0 then (0, q, ft, jb) else (sX8_command_z_4 q tx f ft dy kp ik jb x y n x_1 (sX8_runOn q jb ft y n))) else (if x = 3 then (if y = 0 then (sX8_command_z_5 q tx f ft dy kp ik jb x y n x_1 (sX8_runOn q jb ft 15 n)) else (0, q, ft, jb)) else (if x = 4 then (if x_1 = 0 then (0, q, ft, jb) else (if (sX8_isSetting (y / 1000) ((y / 10) - (y / 10) / 100 * 100)) = 0 then (0, q, ft, jb) else (1, q, (upd ft (10 + ((y / 1000).toNatClampNeg)) ((y / 10) - (y / 10) / 100 * 100)), jb))) else (if x = 5 then (if (sX8_isRoom ft (y / 1000)) = 0 then (0, q, ft, jb) else (if x_1 = 0 then (0, q, ft, jb) else (sX8_command_z_6 q tx f ft dy kp ik jb x y n x_1 (sX8_goodsOn ft ((y / 1000).toNatClampNeg) ((y / 10) - (y / 10) / 100 * 100))))) else (if x = 6 then (if (sX8_isRoom ft (y / 1000)) = 0 then (0, q, ft, jb) else (if x_1 = 0 then (0, q, ft, jb) else (if ((y / 10) - (y / 10) / 100 * 100) < (sX8_of ft ((y / 1000).toNatClampNeg) 5) then (0, q, ft, jb) else (1, q, ft, jb)))) else (if x = 7 then (if (sX8_isRoom ft (y / 1000)) = 0 then (0, q, ft, jb) else (if 8 ≤ (y - y / 1000 * 1000) then (0, q, ft, jb) else (sX8_command_z_7 q tx f ft dy kp ik jb x y n x_1 (sX8_doesIt q tx f ft dy kp ik jb n ((y / 1000).toNatClampNeg) (y - y / 1000 * 1000))))) else (if x = 8 then (if 100 ≤ y then (0, q, ft, jb) else (if y < (ft 3) then (0, q, ft, jb) else (1, q, ft, jb))) else (if x = 9 then (if (sX8_isRoom ft (y / 1000)) = 0 then (0, q, ft, jb) else (if 2 ≤ (y - y / 1000 * 1000) then (0, q, ft, jb) else (sX8_command_j378 q tx f ft dy kp ik jb x y n x_1 (if (y - y / 1000 * 1000) = 1 then 1 else 0)))) else (0, q, ft, jb))))))))))
def sX8_command (q : Nat → Int32) (tx : Nat → Int32) (f : Nat → Int32) (ft : Nat → Int32) (dy : Nat → Int32) (kp : Nat → Int32) (ik : Nat → Int32) (jb : Nat → Int32) (x : Int32) (y : Int32) (n : Nat) : Int32 × (Nat → Int32) × (Nat → Int32) × (Nat → Int32) :=
  (sX8_command_j43 q tx f ft dy kp ik jb x y n (if (y - y / 10 * 10) = 0 then 1 else 0))
set_option maxRecDepth 100000 in
set_option maxHeartbeats 4000000 in
theorem c_X8_command (l : Launch) (G : va_G) (kk : Nat → ClassId) (h : Nat) (b : Nat → Nat) (q : Nat → Int32) (tx : Nat → Int32) (f : Nat → Int32) (ft : Nat → Int32) (dy : Nat → Int32) (kp : Nat → Int32) (ik : Nat → Int32) (jb : Nat → Int32) (x : Int32) (y : Int32) (n : Nat) (hn : ft 0 = nI n) (h6 : n ≤ 6) : CC l yX8_command cX8_command 9 (some .boolean) (rmO 6 136) [.ref h, .int x, .int y] G kk ([(h, .inr (8, moF b q)), ((b 1), .inl (kk 0, 120, .inl tx)), ((b 2), .inl (kk 0, 64, .inl f)), ((b 3), .inl (kk 0, 64, .inl ft)), ((b 4), .inl (kk 0, 896, .inl dy)), ((b 5), .inl (kk 0, 128, .inl kp)), ((b 6), .inl (kk 2, 2, .inl ik)), ((b 7), .inl (kk 0, 6, .inl jb))]) (QI G kk ([(h, .inr (8, moF b ((sX8_command q tx f ft dy kp ik jb x y n).2.1))), ((b 1), .inl (kk 0, 120, .inl tx)), ((b 2), .inl (kk 0, 64, .inl f)), ((b 3), .inl (kk 0, 64, .inl ((sX8_command q tx f ft dy kp ik jb x y n).2.2.1))), ((b 4), .inl (kk 0, 896, .inl dy)), ((b 5), .inl (kk 0, 128, .inl kp)), ((b 6), .inl (kk 2, 2, .inl ik)), ((b 7), .inl (kk 0, 6, .inl ((sX8_command q tx f ft dy kp ik jb x y n).2.2.2)))]) ((sX8_command q tx f ft dy kp ik jb x y n).1)) := by
  refine cc_start (by decide +kernel) (Nat.le_of_ble_eq_true rfl) ?_
  intro p e s m below meth c A ls hx hb hr hml hown hts hlocks hA hE hK hP hD hS hl
  have hown : s.vm.findClass RX8 = some m.cls := hown
  have hl : lv_has ls 9 [(0, .ref h), (1, .int x), (2, .int y)] := hl
  have eS : sX8_command q tx f ft dy kp ik jb x y n = sX8_command q tx f ft dy kp ik jb x y n := rfl
  refine lv_iload_n hx hb dX8_command_0 rfl (lv_at hl 2 rfl) ?_
  refine lv_sipush (v := 1000) hx hb dX8_command_1 (by decide) ?_
  refine lv_idiv hx hb dX8_command_4 (by decide) ?_
  refine lv_istore_n (lv' := [(3, .int (y / 1000)), (0, .ref h), (1, .int x), (2, .int y)]) hx hb dX8_command_5 rfl hl (by decide) rfl (fun ls hl => ?_)
  refine lv_iload_n hx hb dX8_command_6 rfl (lv_at hl 3 rfl) ?_
  refine lv_bipush (v := 100) hx hb dX8_command_7 (by decide) ?_
  refine lv_idiv hx hb dX8_command_9 (by decide) ?_
  refine lv_bipush (v := 10) hx hb dX8_command_10 (by decide) ?_
  refine lv_irem hx hb dX8_command_12 (by decide) ?_
  refine lv_istore (lv' := [(4, .int ((y / 100) - (y / 100) / 10 * 10)), (3, .int (y / 1000)), (0, .ref h), (1, .int x), (2, .int y)]) hx hb dX8_command_13 hl (by decide) rfl (fun ls hl => ?_)
  refine lv_iload_n hx hb dX8_command_15 rfl (lv_at hl 4 rfl) ?_
  refine lv_bipush (v := 10) hx hb dX8_command_16 (by decide) ?_
  refine lv_idiv hx hb dX8_command_18 (by decide) ?_
  refine lv_bipush (v := 100) hx hb dX8_command_19 (by decide) ?_
  refine lv_irem hx hb dX8_command_21 (by decide) ?_
  refine lv_istore (lv' := [(5, .int ((y / 10) - (y / 10) / 100 * 100)), (4, .int ((y / 100) - (y / 100) / 10 * 10)), (3, .int (y / 1000)), (0, .ref h), (1, .int x), (2, .int y)]) hx hb dX8_command_22 hl (by decide) rfl (fun ls hl => ?_)
  refine lv_iload_n hx hb dX8_command_24 rfl (lv_at hl 5 rfl) ?_
  refine lv_sipush (v := 1000) hx hb dX8_command_25 (by decide) ?_
  refine lv_irem hx hb dX8_command_28 (by decide) ?_
  refine lv_istore (lv' := [(6, .int (y - y / 1000 * 1000)), (5, .int ((y / 10) - (y / 10) / 100 * 100)), (4, .int ((y / 100) - (y / 100) / 10 * 10)), (3, .int (y / 1000)), (0, .ref h), (1, .int x), (2, .int y)]) hx hb dX8_command_29 hl (by decide) rfl (fun ls hl => ?_)
  refine lv_iload_n hx hb dX8_command_31 rfl (lv_at hl 6 rfl) ?_
  refine lv_bipush (v := 10) hx hb dX8_command_32 (by decide) ?_
  refine lv_irem hx hb dX8_command_34 (by decide) ?_
  have J_9 : ∀ (x_1 : Int32) (ex_1 : x_1 = (if (y - y / 10 * 10) = 0 then 1 else 0)) (eS : sX8_command q tx f ft dy kp ik jb x y n = sX8_command_j43 q tx f ft dy kp ik jb x y n x_1) (H : Heap) (locs : List Loc) (ls : Array Slot) (hP : va_P G vwCl ([(h, .inr (8, moF b q)), ((b 1), .inl (kk 0, 120, .inl tx)), ((b 2), .inl (kk 0, 64, .inl f)), ((b 3), .inl (kk 0, 64, .inl ft)), ((b 4), .inl (kk 0, 896, .inl dy)), ((b 5), .inl (kk 0, 128, .inl kp)), ((b 6), .inl (kk 2, 2, .inl ik)), ((b 7), .inl (kk 0, 6, .inl jb))]) H) (hD : va_D A ([(h, .inr (8, moF b q)), ((b 1), .inl (kk 0, 120, .inl tx)), ((b 2), .inl (kk 0, 64, .inl f)), ((b 3), .inl (kk 0, 64, .inl ft)), ((b 4), .inl (kk 0, 896, .inl dy)), ((b 5), .inl (kk 0, 128, .inl kp)), ((b 6), .inl (kk 2, 2, .inl ik)), ((b 7), .inl (kk 0, 6, .inl jb))])) (hS : va_S A s.heap H locs) (hl : lv_has ls 9 [(6, .int (y - y / 1000 * 1000)), (5, .int ((y / 10) - (y / 10) / 100 * 100)), (4, .int ((y / 100) - (y / 100) / 10 * 10)), (3, .int (y / 1000)), (0, .ref h), (1, .int x), (2, .int y)]), GO p l e (rmO 6 136) s m ([.ref h, .int x, .int y] : List Value).toArray below meth c A (QI G kk ([(h, .inr (8, moF b ((sX8_command q tx f ft dy kp ik jb x y n).2.1))), ((b 1), .inl (kk 0, 120, .inl tx)), ((b 2), .inl (kk 0, 64, .inl f)), ((b 3), .inl (kk 0, 64, .inl ((sX8_command q tx f ft dy kp ik jb x y n).2.2.1))), ((b 4), .inl (kk 0, 896, .inl dy)), ((b 5), .inl (kk 0, 128, .inl kp)), ((b 6), .inl (kk 2, 2, .inl ik)), ((b 7), .inl (kk 0, 6, .inl ((sX8_command q tx f ft dy kp ik jb x y n).2.2.2)))]) ((sX8_command q tx f ft dy kp ik jb x y n).1)) H locs (F0 m 43 ls [.int x_1]) := by
    intro x_1 ex_1 eS H locs ls hP hD hS hl
    refine lv_istore (lv' := [(7, .int x_1), (6, .int (y - y / 1000 * 1000)), (5, .int ((y / 10) - (y / 10) / 100 * 100)), (4, .int ((y / 100) - (y / 100) / 10 * 10)), (3, .int (y / 1000)), (0, .ref h), (1, .int x), (2, .int y)]) hx hb dX8_command_43 hl (by decide) rfl (fun ls hl => ?_)
    refine lv_aload_n hx hb dX8_command_45 rfl (lv_at hl 5 rfl) ?_
    refine r_get (v := .ref (b 3)) hx hb hts hown hK hP fl_X8_16 0 rfl rfl dX8_command_46 ?_
    refine lv_iload_n hx hb dX8_command_49 rfl (lv_at hl 4 rfl) ?_
    refine k_goI (k_runS (rest := []) (As := [.ref (b 3), .int (y / 1000)]) hx hb hml hown hts hK hP hD hS hA hE hl.1 (c_X8_isRoom l G kk (b 3) ft (y / 1000) ) sl_X8_158 ⟨Nat.le_of_ble_eq_true rfl, Nat.le_of_ble_eq_true rfl, rfl, rfl⟩ [3] rfl rfl ⟨Nat.zero_le _, Nat.zero_le _⟩ rfl (Nat.le_of_ble_eq_true rfl) dX8_command_50) hP hD hS hA [3] rfl ads1 (fun H locs hP hD hS => ?_)
    replace hP : va_P G vwCl ([(h, .inr (8, moF b q)), ((b 1), .inl (kk 0, 120, .inl tx)), ((b 2), .inl (kk 0, 64, .inl f)), ((b 3), .inl (kk 0, 64, .inl ft)), ((b 4), .inl (kk 0, 896, .inl dy)), ((b 5), .inl (kk 0, 128, .inl kp)), ((b 6), .inl (kk 2, 2, .inl ik)), ((b 7), .inl (kk 0, 6, .inl jb))]) H := hP
    replace hD : va_D A ([(h, .inr (8, moF b q)), ((b 1), .inl (kk 0, 120, .inl tx)), ((b 2), .inl (kk 0, 64, .inl f)), ((b 3), .inl (kk 0, 64, .inl ft)), ((b 4), .inl (kk 0, 896, .inl dy)), ((b 5), .inl (kk 0, 128, .inl kp)), ((b 6), .inl (kk 2, 2, .inl ik)), ((b 7), .inl (kk 0, 6, .inl jb))]) := hD
    refine lv_istore (lv' := [(8, .int (sX8_isRoom ft (y / 1000))), (7, .int x_1), (6, .int (y - y / 1000 * 1000)), (5, .int ((y / 10) - (y / 10) / 100 * 100)), (4, .int ((y / 100) - (y / 100) / 10 * 10)), (3, .int (y / 1000)), (0, .ref h), (1, .int x), (2, .int y)]) hx hb dX8_command_53 hl (by decide) rfl (fun ls hl => ?_)
    refine lv_iload_n hx hb dX8_command_55 rfl (lv_at hl 7 rfl) ?_
    refine (Decidable.em (x = 1)).elim (fun c_56_0 => ?_) (fun c_56_0 => ?_)
    · have eS := eS.trans (if_pos c_56_0)
      refine lv_tableIn (tgt := 108) hx hb dX8_command_56 (by rw [c_56_0]; decide) (by rw [c_56_0]; decide) (by rw [c_56_0]; rfl) (by decide) ?_
      refine lv_iload hx hb dX8_command_108 (lv_at hl 0 rfl) ?_
      refine lv_if_eq (tgt := 152) hx hb dX8_command_110 (by decide) (fun c_110 => ?_) (fun c_110 => ?_)
      · have eS := eS.trans (if_pos c_110)
        refine lv_iconst (v := 0) hx hb dX8_command_152 (by decide) ?_
        exact fin_z hx hb hr hlocks hK (vP_eq (congrArg (fun z : Int32 × (Nat → Int32) × (Nat → Int32) × (Nat → Int32) => ([(h, .inr (8, moF b z.2.1)), ((b 1), .inl (kk 0, 120, .inl tx)), ((b 2), .inl (kk 0, 64, .inl f)), ((b 3), .inl (kk 0, 64, .inl z.2.2.1)), ((b 4), .inl (kk 0, 896, .inl dy)), ((b 5), .inl (kk 0, 128, .inl kp)), ((b 6), .inl (kk 2, 2, .inl ik)), ((b 7), .inl (kk 0, 6, .inl z.2.2.2))] : va_W)) eS.symm) hP) (vD_eq (congrArg (fun z : Int32 × (Nat → Int32) × (Nat → Int32) × (Nat → Int32) => ([(h, .inr (8, moF b z.2.1)), ((b 1), .inl (kk 0, 120, .inl tx)), ((b 2), .inl (kk 0, 64, .inl f)), ((b 3), .inl (kk 0, 64, .inl z.2.2.1)), ((b 4), .inl (kk 0, 896, .inl dy)), ((b 5), .inl (kk 0, 128, .inl kp)), ((b 6), .inl (kk 2, 2, .inl ik)), ((b 7), .inl (kk 0, 6, .inl z.2.2.2))] : va_W)) eS.symm) hD) hS (congrArg (fun z : Int32 × (Nat → Int32) × (Nat → Int32) × (Nat → Int32) => z.1) eS) rfl dX8_command_153
      · have eS := eS.trans (if_neg c_110)
        refine lv_iload hx hb dX8_command_113 (lv_at hl 4 rfl) ?_
        refine lv_iconst (v := 2) hx hb dX8_command_115 (by decide) ?_
        refine lv_icmp_ge (tgt := 152) hx hb dX8_command_116 (by decide) (fun c_116 => ?_) (fun c_116 => ?_)
        · have eS := eS.trans (if_pos c_116)
          refine lv_iconst (v := 0) hx hb dX8_command_152 (by decide) ?_
          exact fin_z hx hb hr hlocks hK (vP_eq (congrArg (fun z : Int32 × (Nat → Int32) × (Nat → Int32) × (Nat → Int32) => ([(h, .inr (8, moF b z.2.1)), ((b 1), .inl (kk 0, 120, .inl tx)), ((b 2), .inl (kk 0, 64, .inl f)), ((b 3), .inl (kk 0, 64, .inl z.2.2.1)), ((b 4), .inl (kk 0, 896, .inl dy)), ((b 5), .inl (kk 0, 128, .inl kp)), ((b 6), .inl (kk 2, 2, .inl ik)), ((b 7), .inl (kk 0, 6, .inl z.2.2.2))] : va_W)) eS.symm) hP) (vD_eq (congrArg (fun z : Int32 × (Nat → Int32) × (Nat → Int32) × (Nat → Int32) => ([(h, .inr (8, moF b z.2.1)), ((b 1), .inl (kk 0, 120, .inl tx)), ((b 2), .inl (kk 0, 64, .inl f)), ((b 3), .inl (kk 0, 64, .inl z.2.2.1)), ((b 4), .inl (kk 0, 896, .inl dy)), ((b 5), .inl (kk 0, 128, .inl kp)), ((b 6), .inl (kk 2, 2, .inl ik)), ((b 7), .inl (kk 0, 6, .inl z.2.2.2))] : va_W)) eS.symm) hD) hS (congrArg (fun z : Int32 × (Nat → Int32) × (Nat → Int32) × (Nat → Int32) => z.1) eS) rfl dX8_command_153
        · have eS := eS.trans (if_neg c_116)
          refine lv_iload_n hx hb dX8_command_119 rfl (lv_at hl 8 rfl) ?_
          refine lv_bipush (v := 100) hx hb dX8_command_120 (by decide) ?_
          refine lv_irem hx hb dX8_command_122 (by decide) ?_
          refine lv_if_ne (tgt := 152) hx hb dX8_command_123 (by decide) (fun c_123 => ?_) (fun c_123 => ?_)
          · have eS := eS.trans (if_neg c_123)
            refine lv_iconst (v := 0) hx hb dX8_command_152 (by decide) ?_
            exact fin_z hx hb hr hlocks hK (vP_eq (congrArg (fun z : Int32 × (Nat → Int32) × (Nat → Int32) × (Nat → Int32) => ([(h, .inr (8, moF b z.2.1)), ((b 1), .inl (kk 0, 120, .inl tx)), ((b 2), .inl (kk 0, 64, .inl f)), ((b 3), .inl (kk 0, 64, .inl z.2.2.1)), ((b 4), .inl (kk 0, 896, .inl dy)), ((b 5), .inl (kk 0, 128, .inl kp)), ((b 6), .inl (kk 2, 2, .inl ik)), ((b 7), .inl (kk 0, 6, .inl z.2.2.2))] : va_W)) eS.symm) hP) (vD_eq (congrArg (fun z : Int32 × (Nat → Int32) × (Nat → Int32) × (Nat → Int32) => ([(h, .inr (8, moF b z.2.1)), ((b 1), .inl (kk 0, 120, .inl tx)), ((b 2), .inl (kk 0, 64, .inl f)), ((b 3), .inl (kk 0, 64, .inl z.2.2.1)), ((b 4), .inl (kk 0, 896, .inl dy)), ((b 5), .inl (kk 0, 128, .inl kp)), ((b 6), .inl (kk 2, 2, .inl ik)), ((b 7), .inl (kk 0, 6, .inl z.2.2.2))] : va_W)) eS.symm) hD) hS (congrArg (fun z : Int32 × (Nat → Int32) × (Nat → Int32) × (Nat → Int32) => z.1) eS) rfl dX8_command_153
          · have eS := eS.trans (if_pos c_123)
            obtain ⟨hx1, hx2⟩ := isRoom_in hn h6 c_110
            refine lv_aload_n hx hb dX8_command_126 rfl (lv_at hl 6 rfl) ?_
            refine r_get (v := .ref (b 3)) hx hb hts hown hK hP fl_X8_16 0 rfl rfl dX8_command_127 ?_
            refine lv_iload_n hx hb dX8_command_130 rfl (lv_at hl 5 rfl) ?_
            refine top_eq (y := (nI ((y / 1000).toNatClampNeg))) (hx1) ?_
            refine lv_iload hx hb dX8_command_131 (lv_at hl 4 rfl) ?_
            refine lv_iconst (v := 1) hx hb dX8_command_133 (by decide) ?_
            have J_10 : ∀ (x_2 : Int32) (ex_2 : x_2 = (if ((y / 100) - (y / 100) / 10 * 10) = 1 then 1 else 0)) (eS : sX8_command q tx f ft dy kp ik jb x y n = sX8_command_j142 q tx f ft dy kp ik jb x y n x_1 x_2) (H : Heap) (locs : List Loc) (ls : Array Slot) (hP : va_P G vwCl ([(h, .inr (8, moF b q)), ((b 1), .inl (kk 0, 120, .inl tx)), ((b 2), .inl (kk 0, 64, .inl f)), ((b 3), .inl (kk 0, 64, .inl ft)), ((b 4), .inl (kk 0, 896, .inl dy)), ((b 5), .inl (kk 0, 128, .inl kp)), ((b 6), .inl (kk 2, 2, .inl ik)), ((b 7), .inl (kk 0, 6, .inl jb))]) H) (hD : va_D A ([(h, .inr (8, moF b q)), ((b 1), .inl (kk 0, 120, .inl tx)), ((b 2), .inl (kk 0, 64, .inl f)), ((b 3), .inl (kk 0, 64, .inl ft)), ((b 4), .inl (kk 0, 896, .inl dy)), ((b 5), .inl (kk 0, 128, .inl kp)), ((b 6), .inl (kk 2, 2, .inl ik)), ((b 7), .inl (kk 0, 6, .inl jb))])) (hS : va_S A s.heap H locs) (hl : lv_has ls 9 [(8, .int (sX8_isRoom ft (y / 1000))), (7, .int x_1), (6, .int (y - y / 1000 * 1000)), (5, .int ((y / 10) - (y / 10) / 100 * 100)), (4, .int ((y / 100) - (y / 100) / 10 * 10)), (3, .int (y / 1000)), (0, .ref h), (1, .int x), (2, .int y)]), GO p l e (rmO 6 136) s m ([.ref h, .int x, .int y] : List Value).toArray below meth c A (QI G kk ([(h, .inr (8, moF b ((sX8_command q tx f ft dy kp ik jb x y n).2.1))), ((b 1), .inl (kk 0, 120, .inl tx)), ((b 2), .inl (kk 0, 64, .inl f)), ((b 3), .inl (kk 0, 64, .inl ((sX8_command q tx f ft dy kp ik jb x y n).2.2.1))), ((b 4), .inl (kk 0, 896, .inl dy)), ((b 5), .inl (kk 0, 128, .inl kp)), ((b 6), .inl (kk 2, 2, .inl ik)), ((b 7), .inl (kk 0, 6, .inl ((sX8_command q tx f ft dy kp ik jb x y n).2.2.2)))]) ((sX8_command q tx f ft dy kp ik jb x y n).1)) H locs (F0 m 142 ls [.int x_2, .int (nI ((y / 1000).toNatClampNeg)), .ref (b 3)]) := by
              intro x_2 ex_2 eS H locs ls hP hD hS hl
              refine k_goI (k_runS (rest := []) (As := [.ref (b 3), .int (nI ((y / 1000).toNatClampNeg)), .int x_2]) hx hb hml hown hts hK hP hD hS hA hE hl.1 (c_X8_doorOn l G kk (b 3) ft n ((y / 1000).toNatClampNeg) x_2 hn h6 (by omega)) sl_X8_161 ⟨Nat.le_of_ble_eq_true rfl, Nat.le_of_ble_eq_true rfl, rfl, rfl⟩ [3] rfl rfl ⟨Nat.zero_le _, Nat.zero_le _⟩ rfl (Nat.le_of_ble_eq_true rfl) dX8_command_142) hP hD hS hA [3] rfl ads1 (fun H locs hP hD hS => ?_)
              replace hP : va_P G vwCl ([(h, .inr (8, moF b q)), ((b 1), .inl (kk 0, 120, .inl tx)), ((b 2), .inl (kk 0, 64, .inl f)), ((b 3), .inl (kk 0, 64, .inl ((sX8_doorOn ft n ((y / 1000).toNatClampNeg) x_2).2))), ((b 4), .inl (kk 0, 896, .inl dy)), ((b 5), .inl (kk 0, 128, .inl kp)), ((b 6), .inl (kk 2, 2, .inl ik)), ((b 7), .inl (kk 0, 6, .inl jb))]) H := hP
              replace hD : va_D A ([(h, .inr (8, moF b q)), ((b 1), .inl (kk 0, 120, .inl tx)), ((b 2), .inl (kk 0, 64, .inl f)), ((b 3), .inl (kk 0, 64, .inl ((sX8_doorOn ft n ((y / 1000).toNatClampNeg) x_2).2))), ((b 4), .inl (kk 0, 896, .inl dy)), ((b 5), .inl (kk 0, 128, .inl kp)), ((b 6), .inl (kk 2, 2, .inl ik)), ((b 7), .inl (kk 0, 6, .inl jb))]) := hD
              have eS : sX8_command q tx f ft dy kp ik jb x y n = sX8_command_z_3 q tx f ft dy kp ik jb x y n x_1 x_2 (sX8_doorOn ft n ((y / 1000).toNatClampNeg) x_2) := eS
              have hz_3 := do_0 ft n ((y / 1000).toNatClampNeg) x_2
              generalize sX8_doorOn ft n ((y / 1000).toNatClampNeg) x_2 = z_3 at hP hD eS hz_3 ⊢
              refine lv_if_lt (tgt := 152) hx hb dX8_command_145 (by decide) (fun c_145 => ?_) (fun c_145 => ?_)
              · have eS := eS.trans (if_pos c_145)
                refine lv_iconst (v := 0) hx hb dX8_command_152 (by decide) ?_
                exact fin_z hx hb hr hlocks hK (vP_eq (congrArg (fun z : Int32 × (Nat → Int32) × (Nat → Int32) × (Nat → Int32) => ([(h, .inr (8, moF b z.2.1)), ((b 1), .inl (kk 0, 120, .inl tx)), ((b 2), .inl (kk 0, 64, .inl f)), ((b 3), .inl (kk 0, 64, .inl z.2.2.1)), ((b 4), .inl (kk 0, 896, .inl dy)), ((b 5), .inl (kk 0, 128, .inl kp)), ((b 6), .inl (kk 2, 2, .inl ik)), ((b 7), .inl (kk 0, 6, .inl z.2.2.2))] : va_W)) eS.symm) hP) (vD_eq (congrArg (fun z : Int32 × (Nat → Int32) × (Nat → Int32) × (Nat → Int32) => ([(h, .inr (8, moF b z.2.1)), ((b 1), .inl (kk 0, 120, .inl tx)), ((b 2), .inl (kk 0, 64, .inl f)), ((b 3), .inl (kk 0, 64, .inl z.2.2.1)), ((b 4), .inl (kk 0, 896, .inl dy)), ((b 5), .inl (kk 0, 128, .inl kp)), ((b 6), .inl (kk 2, 2, .inl ik)), ((b 7), .inl (kk 0, 6, .inl z.2.2.2))] : va_W)) eS.symm) hD) hS (congrArg (fun z : Int32 × (Nat → Int32) × (Nat → Int32) × (Nat → Int32) => z.1) eS) rfl dX8_command_153
              · have eS := eS.trans (if_neg c_145)
                refine lv_iconst (v := 1) hx hb dX8_command_148 (by decide) ?_
                refine lv_goto (tgt := 153) hx hb dX8_command_149 (by decide) ?_
                exact fin_z hx hb hr hlocks hK (vP_eq (congrArg (fun z : Int32 × (Nat → Int32) × (Nat → Int32) × (Nat → Int32) => ([(h, .inr (8, moF b z.2.1)), ((b 1), .inl (kk 0, 120, .inl tx)), ((b 2), .inl (kk 0, 64, .inl f)), ((b 3), .inl (kk 0, 64, .inl z.2.2.1)), ((b 4), .inl (kk 0, 896, .inl dy)), ((b 5), .inl (kk 0, 128, .inl kp)), ((b 6), .inl (kk 2, 2, .inl ik)), ((b 7), .inl (kk 0, 6, .inl z.2.2.2))] : va_W)) eS.symm) hP) (vD_eq (congrArg (fun z : Int32 × (Nat → Int32) × (Nat → Int32) × (Nat → Int32) => ([(h, .inr (8, moF b z.2.1)), ((b 1), .inl (kk 0, 120, .inl tx)), ((b 2), .inl (kk 0, 64, .inl f)), ((b 3), .inl (kk 0, 64, .inl z.2.2.1)), ((b 4), .inl (kk 0, 896, .inl dy)), ((b 5), .inl (kk 0, 128, .inl kp)), ((b 6), .inl (kk 2, 2, .inl ik)), ((b 7), .inl (kk 0, 6, .inl z.2.2.2))] : va_W)) eS.symm) hD) hS (congrArg (fun z : Int32 × (Nat → Int32) × (Nat → Int32) × (Nat → Int32) => z.1) eS) rfl dX8_command_153
            refine lv_icmp_ne (tgt := 141) hx hb dX8_command_134 (by decide) (fun c_134 => ?_) (fun c_134 => ?_)
            · refine lv_iconst (v := 0) hx hb dX8_command_141 (by decide) ?_
              exact J_10 0 (if_neg c_134).symm (eS.trans (cg1 (sX8_command_j142 q tx f ft dy kp ik jb x y n x_1) (if_neg c_134))) _ _ ls hP hD hS (lv_sub hl [0, 1, 2, 3, 4, 5, 6, 7, 8] rfl)
            · refine lv_iconst (v := 1) hx hb dX8_command_137 (by decide) ?_
              refine lv_goto (tgt := 142) hx hb dX8_command_138 (by decide) ?_
              exact J_10 1 (if_pos c_134).symm (eS.trans (cg1 (sX8_command_j142 q tx f ft dy kp ik jb x y n x_1) (if_pos c_134))) _ _ ls hP hD hS (lv_sub hl [0, 1, 2, 3, 4, 5, 6, 7, 8] rfl)
    have eS := eS.trans (if_neg c_56_0)
    refine (Decidable.em (x = 2)).elim (fun c_56_1 => ?_) (fun c_56_1 => ?_)
    · have eS := eS.trans (if_pos c_56_1)
      refine lv_tableIn (tgt := 154) hx hb dX8_command_56 (by rw [c_56_1]; decide) (by rw [c_56_1]; decide) (by rw [c_56_1]; rfl) (by decide) ?_
      refine lv_iload_n hx hb dX8_command_154 rfl (lv_at hl 8 rfl) ?_
      refine lv_i2l (v := (y.toInt64)) hx hb dX8_command_155 (by first | rfl | decide) ?_
      refine lv_lconst (v := 1) hx hb dX8_command_156 rfl ?_
      refine lv_ldc2 (v := 60) hx hb hown (hts _ kl_X8_196) dX8_command_157 ?_
      refine k_goI (k_runS (rest := []) (As := [.long (y.toInt64), .long 1, .long 60]) hx hb hml hown hts hK hP hD hS hA hE hl.1 (c_X8_in l G kk (y.toInt64) 1 60 ) sl_X8_40 ⟨Nat.le_of_ble_eq_true rfl, Nat.le_of_ble_eq_true rfl, rfl, rfl⟩ [] rfl rfl ⟨Nat.zero_le _, Nat.zero_le _⟩ rfl (Nat.le_of_ble_eq_true rfl) dX8_command_160) hP hD hS hA [] rfl ads0 (fun H locs hP hD hS => ?_)
      replace hP : va_P G vwCl ([(h, .inr (8, moF b q)), ((b 1), .inl (kk 0, 120, .inl tx)), ((b 2), .inl (kk 0, 64, .inl f)), ((b 3), .inl (kk 0, 64, .inl ft)), ((b 4), .inl (kk 0, 896, .inl dy)), ((b 5), .inl (kk 0, 128, .inl kp)), ((b 6), .inl (kk 2, 2, .inl ik)), ((b 7), .inl (kk 0, 6, .inl jb))]) H := hP
      replace hD : va_D A ([(h, .inr (8, moF b q)), ((b 1), .inl (kk 0, 120, .inl tx)), ((b 2), .inl (kk 0, 64, .inl f)), ((b 3), .inl (kk 0, 64, .inl ft)), ((b 4), .inl (kk 0, 896, .inl dy)), ((b 5), .inl (kk 0, 128, .inl kp)), ((b 6), .inl (kk 2, 2, .inl ik)), ((b 7), .inl (kk 0, 6, .inl jb))]) := hD
      refine lv_if_eq (tgt := 182) hx hb dX8_command_163 (by decide) (fun c_163 => ?_) (fun c_163 => ?_)
      · have eS := eS.trans (if_pos c_163)
        refine lv_iconst (v := 0) hx hb dX8_command_182 (by decide) ?_
        exact fin_z hx hb hr hlocks hK (vP_eq (congrArg (fun z : Int32 × (Nat → Int32) × (Nat → Int32) × (Nat → Int32) => ([(h, .inr (8, moF b z.2.1)), ((b 1), .inl (kk 0, 120, .inl tx)), ((b 2), .inl (kk 0, 64, .inl f)), ((b 3), .inl (kk 0, 64, .inl z.2.2.1)), ((b 4), .inl (kk 0, 896, .inl dy)), ((b 5), .inl (kk 0, 128, .inl kp)), ((b 6), .inl (kk 2, 2, .inl ik)), ((b 7), .inl (kk 0, 6, .inl z.2.2.2))] : va_W)) eS.symm) hP) (vD_eq (congrArg (fun z : Int32 × (Nat → Int32) × (Nat → Int32) × (Nat → Int32) => ([(h, .inr (8, moF b z.2.1)), ((b 1), .inl (kk 0, 120, .inl tx)), ((b 2), .inl (kk 0, 64, .inl f)), ((b 3), .inl (kk 0, 64, .inl z.2.2.1)), ((b 4), .inl (kk 0, 896, .inl dy)), ((b 5), .inl (kk 0, 128, .inl kp)), ((b 6), .inl (kk 2, 2, .inl ik)), ((b 7), .inl (kk 0, 6, .inl z.2.2.2))] : va_W)) eS.symm) hD) hS (congrArg (fun z : Int32 × (Nat → Int32) × (Nat → Int32) × (Nat → Int32) => z.1) eS) rfl dX8_command_183
      · have eS := eS.trans (if_neg c_163)
        obtain ⟨hx1, hx2⟩ := in_p (n := 60) c_163 rfl
        refine lv_aload_n hx hb dX8_command_166 rfl (lv_at hl 6 rfl) ?_
        refine lv_aload_n hx hb dX8_command_167 rfl (lv_at hl 6 rfl) ?_
        refine r_get (v := .ref (b 3)) hx hb hts hown hK hP fl_X8_16 0 rfl rfl dX8_command_168 ?_
        refine lv_iload_n hx hb dX8_command_171 rfl (lv_at hl 8 rfl) ?_
        refine k_goI (k_runV (rest := []) (As := [.ref (b 3), .int y]) hx hb hml hown hts hK hP hD hS hA hE hl.1 (c_X8_runOn l G kk h b q jb (b 3) ft y n hn h6 hx1) vl_X8_165 rfl rfl rfl ⟨Nat.le_of_ble_eq_true rfl, Nat.le_of_ble_eq_true rfl, rfl, rfl⟩ [0, 7, 3] rfl rfl ⟨Nat.zero_le _, Nat.zero_le _⟩ rfl (Nat.le_of_ble_eq_true rfl) dX8_command_172) hP hD hS hA [0, 7, 3] rfl ads3 (fun H locs hP hD hS => ?_)
        replace hP : va_P G vwCl ([(h, .inr (8, moF b ((sX8_runOn q jb ft y n).2.1))), ((b 1), .inl (kk 0, 120, .inl tx)), ((b 2), .inl (kk 0, 64, .inl f)), ((b 3), .inl (kk 0, 64, .inl ((sX8_runOn q jb ft y n).2.2.2))), ((b 4), .inl (kk 0, 896, .inl dy)), ((b 5), .inl (kk 0, 128, .inl kp)), ((b 6), .inl (kk 2, 2, .inl ik)), ((b 7), .inl (kk 0, 6, .inl ((sX8_runOn q jb ft y n).2.2.1)))]) H := hP
        replace hD : va_D A ([(h, .inr (8, moF b ((sX8_runOn q jb ft y n).2.1))), ((b 1), .inl (kk 0, 120, .inl tx)), ((b 2), .inl (kk 0, 64, .inl f)), ((b 3), .inl (kk 0, 64, .inl ((sX8_runOn q jb ft y n).2.2.2))), ((b 4), .inl (kk 0, 896, .inl dy)), ((b 5), .inl (kk 0, 128, .inl kp)), ((b 6), .inl (kk 2, 2, .inl ik)), ((b 7), .inl (kk 0, 6, .inl ((sX8_runOn q jb ft y n).2.2.1)))]) := hD
        have eS : sX8_command q tx f ft dy kp ik jb x y n = sX8_command_z_4 q tx f ft dy kp ik jb x y n x_1 (sX8_runOn q jb ft y n) := eS
        have hz_4 := rn_0 h6 q jb ft y
        generalize sX8_runOn q jb ft y n = z_4 at hP hD eS hz_4 ⊢
        refine lv_if_lt (tgt := 182) hx hb dX8_command_175 (by decide) (fun c_175 => ?_) (fun c_175 => ?_)
        · have eS := eS.trans (if_pos c_175)
          refine lv_iconst (v := 0) hx hb dX8_command_182 (by decide) ?_
          exact fin_z hx hb hr hlocks hK (vP_eq (congrArg (fun z : Int32 × (Nat → Int32) × (Nat → Int32) × (Nat → Int32) => ([(h, .inr (8, moF b z.2.1)), ((b 1), .inl (kk 0, 120, .inl tx)), ((b 2), .inl (kk 0, 64, .inl f)), ((b 3), .inl (kk 0, 64, .inl z.2.2.1)), ((b 4), .inl (kk 0, 896, .inl dy)), ((b 5), .inl (kk 0, 128, .inl kp)), ((b 6), .inl (kk 2, 2, .inl ik)), ((b 7), .inl (kk 0, 6, .inl z.2.2.2))] : va_W)) eS.symm) hP) (vD_eq (congrArg (fun z : Int32 × (Nat → Int32) × (Nat → Int32) × (Nat → Int32) => ([(h, .inr (8, moF b z.2.1)), ((b 1), .inl (kk 0, 120, .inl tx)), ((b 2), .inl (kk 0, 64, .inl f)), ((b 3), .inl (kk 0, 64, .inl z.2.2.1)), ((b 4), .inl (kk 0, 896, .inl dy)), ((b 5), .inl (kk 0, 128, .inl kp)), ((b 6), .inl (kk 2, 2, .inl ik)), ((b 7), .inl (kk 0, 6, .inl z.2.2.2))] : va_W)) eS.symm) hD) hS (congrArg (fun z : Int32 × (Nat → Int32) × (Nat → Int32) × (Nat → Int32) => z.1) eS) rfl dX8_command_183
        · have eS := eS.trans (if_neg c_175)
          refine lv_iconst (v := 1) hx hb dX8_command_178 (by decide) ?_
          refine lv_goto (tgt := 183) hx hb dX8_command_179 (by decide) ?_
          exact fin_z hx hb hr hlocks hK (vP_eq (congrArg (fun z : Int32 × (Nat → Int32) × (Nat → Int32) × (Nat → Int32) => ([(h, .inr (8, moF b z.2.1)), ((b 1), .inl (kk 0, 120, .inl tx)), ((b 2), .inl (kk 0, 64, .inl f)), ((b 3), .inl (kk 0, 64, .inl z.2.2.1)), ((b 4), .inl (kk 0, 896, .inl dy)), ((b 5), .inl (kk 0, 128, .inl kp)), ((b 6), .inl (kk 2, 2, .inl ik)), ((b 7), .inl (kk 0, 6, .inl z.2.2.2))] : va_W)) eS.symm) hP) (vD_eq (congrArg (fun z : Int32 × (Nat → Int32) × (Nat → Int32) × (Nat → Int32) => ([(h, .inr (8, moF b z.2.1)), ((b 1), .inl (kk 0, 120, .inl tx)), ((b 2), .inl (kk 0, 64, .inl f)), ((b 3), .inl (kk 0, 64, .inl z.2.2.1)), ((b 4), .inl (kk 0, 896, .inl dy)), ((b 5), .inl (kk 0, 128, .inl kp)), ((b 6), .inl (kk 2, 2, .inl ik)), ((b 7), .inl (kk 0, 6, .inl z.2.2.2))] : va_W)) eS.symm) hD) hS (congrArg (fun z : Int32 × (Nat → Int32) × (Nat → Int32) × (Nat → Int32) => z.1) eS) rfl dX8_command_183
    have eS := eS.trans (if_neg c_56_1)
    refine (Decidable.em (x = 3)).elim (fun c_56_2 => ?_) (fun c_56_2 => ?_)
    · have eS := eS.trans (if_pos c_56_2)
      refine lv_tableIn (tgt := 184) hx hb dX8_command_56 (by rw [c_56_2]; decide) (by rw [c_56_2]; decide) (by rw [c_56_2]; rfl) (by decide) ?_
      refine lv_iload_n hx hb dX8_command_184 rfl (lv_at hl 8 rfl) ?_
      refine lv_if_ne (tgt := 205) hx hb dX8_command_185 (by decide) (fun c_185 => ?_) (fun c_185 => ?_)
      · have eS := eS.trans (if_neg c_185)
        refine lv_iconst (v := 0) hx hb dX8_command_205 (by decide) ?_
        exact fin_z hx hb hr hlocks hK (vP_eq (congrArg (fun z : Int32 × (Nat → Int32) × (Nat → Int32) × (Nat → Int32) => ([(h, .inr (8, moF b z.2.1)), ((b 1), .inl (kk 0, 120, .inl tx)), ((b 2), .inl (kk 0, 64, .inl f)), ((b 3), .inl (kk 0, 64, .inl z.2.2.1)), ((b 4), .inl (kk 0, 896, .inl dy)), ((b 5), .inl (kk 0, 128, .inl kp)), ((b 6), .inl (kk 2, 2, .inl ik)), ((b 7), .inl (kk 0, 6, .inl z.2.2.2))] : va_W)) eS.symm) hP) (vD_eq (congrArg (fun z : Int32 × (Nat → Int32) × (Nat → Int32) × (Nat → Int32) => ([(h, .inr (8, moF b z.2.1)), ((b 1), .inl (kk 0, 120, .inl tx)), ((b 2), .inl (kk 0, 64, .inl f)), ((b 3), .inl (kk 0, 64, .inl z.2.2.1)), ((b 4), .inl (kk 0, 896, .inl dy)), ((b 5), .inl (kk 0, 128, .inl kp)), ((b 6), .inl (kk 2, 2, .inl ik)), ((b 7), .inl (kk 0, 6, .inl z.2.2.2))] : va_W)) eS.symm) hD) hS (congrArg (fun z : Int32 × (Nat → Int32) × (Nat → Int32) × (Nat → Int32) => z.1) eS) rfl dX8_command_206
      · have eS := eS.trans (if_pos c_185)
        refine lv_aload_n hx hb dX8_command_188 rfl (lv_at hl 6 rfl) ?_
        refine lv_aload_n hx hb dX8_command_189 rfl (lv_at hl 6 rfl) ?_
        refine r_get (v := .ref (b 3)) hx hb hts hown hK hP fl_X8_16 0 rfl rfl dX8_command_190 ?_
        refine lv_bipush (v := 15) hx hb dX8_command_193 (by decide) ?_
        refine k_goI (k_runV (rest := []) (As := [.ref (b 3), .int 15]) hx hb hml hown hts hK hP hD hS hA hE hl.1 (c_X8_runOn l G kk h b q jb (b 3) ft 15 n hn h6 (by decide)) vl_X8_165 rfl rfl rfl ⟨Nat.le_of_ble_eq_true rfl, Nat.le_of_ble_eq_true rfl, rfl, rfl⟩ [0, 7, 3] rfl rfl ⟨Nat.zero_le _, Nat.zero_le _⟩ rfl (Nat.le_of_ble_eq_true rfl) dX8_command_195) hP hD hS hA [0, 7, 3] rfl ads3 (fun H locs hP hD hS => ?_)
        replace hP : va_P G vwCl ([(h, .inr (8, moF b ((sX8_runOn q jb ft 15 n).2.1))), ((b 1), .inl (kk 0, 120, .inl tx)), ((b 2), .inl (kk 0, 64, .inl f)), ((b 3), .inl (kk 0, 64, .inl ((sX8_runOn q jb ft 15 n).2.2.2))), ((b 4), .inl (kk 0, 896, .inl dy)), ((b 5), .inl (kk 0, 128, .inl kp)), ((b 6), .inl (kk 2, 2, .inl ik)), ((b 7), .inl (kk 0, 6, .inl ((sX8_runOn q jb ft 15 n).2.2.1)))]) H := hP
        replace hD : va_D A ([(h, .inr (8, moF b ((sX8_runOn q jb ft 15 n).2.1))), ((b 1), .inl (kk 0, 120, .inl tx)), ((b 2), .inl (kk 0, 64, .inl f)), ((b 3), .inl (kk 0, 64, .inl ((sX8_runOn q jb ft 15 n).2.2.2))), ((b 4), .inl (kk 0, 896, .inl dy)), ((b 5), .inl (kk 0, 128, .inl kp)), ((b 6), .inl (kk 2, 2, .inl ik)), ((b 7), .inl (kk 0, 6, .inl ((sX8_runOn q jb ft 15 n).2.2.1)))]) := hD
        have eS : sX8_command q tx f ft dy kp ik jb x y n = sX8_command_z_5 q tx f ft dy kp ik jb x y n x_1 (sX8_runOn q jb ft 15 n) := eS
        have hz_5 := rn_0 h6 q jb ft 15
        generalize sX8_runOn q jb ft 15 n = z_5 at hP hD eS hz_5 ⊢
        refine lv_if_lt (tgt := 205) hx hb dX8_command_198 (by decide) (fun c_198 => ?_) (fun c_198 => ?_)
        · have eS := eS.trans (if_pos c_198)
          refine lv_iconst (v := 0) hx hb dX8_command_205 (by decide) ?_
          exact fin_z hx hb hr hlocks hK (vP_eq (congrArg (fun z : Int32 × (Nat → Int32) × (Nat → Int32) × (Nat → Int32) => ([(h, .inr (8, moF b z.2.1)), ((b 1), .inl (kk 0, 120, .inl tx)), ((b 2), .inl (kk 0, 64, .inl f)), ((b 3), .inl (kk 0, 64, .inl z.2.2.1)), ((b 4), .inl (kk 0, 896, .inl dy)), ((b 5), .inl (kk 0, 128, .inl kp)), ((b 6), .inl (kk 2, 2, .inl ik)), ((b 7), .inl (kk 0, 6, .inl z.2.2.2))] : va_W)) eS.symm) hP) (vD_eq (congrArg (fun z : Int32 × (Nat → Int32) × (Nat → Int32) × (Nat → Int32) => ([(h, .inr (8, moF b z.2.1)), ((b 1), .inl (kk 0, 120, .inl tx)), ((b 2), .inl (kk 0, 64, .inl f)), ((b 3), .inl (kk 0, 64, .inl z.2.2.1)), ((b 4), .inl (kk 0, 896, .inl dy)), ((b 5), .inl (kk 0, 128, .inl kp)), ((b 6), .inl (kk 2, 2, .inl ik)), ((b 7), .inl (kk 0, 6, .inl z.2.2.2))] : va_W)) eS.symm) hD) hS (congrArg (fun z : Int32 × (Nat → Int32) × (Nat → Int32) × (Nat → Int32) => z.1) eS) rfl dX8_command_206
        · have eS := eS.trans (if_neg c_198)
          refine lv_iconst (v := 1) hx hb dX8_command_201 (by decide) ?_
          refine lv_goto (tgt := 206) hx hb dX8_command_202 (by decide) ?_
          exact fin_z hx hb hr hlocks hK (vP_eq (congrArg (fun z : Int32 × (Nat → Int32) × (Nat → Int32) × (Nat → Int32) => ([(h, .inr (8, moF b z.2.1)), ((b 1), .inl (kk 0, 120, .inl tx)), ((b 2), .inl (kk 0, 64, .inl f)), ((b 3), .inl (kk 0, 64, .inl z.2.2.1)), ((b 4), .inl (kk 0, 896, .inl dy)), ((b 5), .inl (kk 0, 128, .inl kp)), ((b 6), .inl (kk 2, 2, .inl ik)), ((b 7), .inl (kk 0, 6, .inl z.2.2.2))] : va_W)) eS.symm) hP) (vD_eq (congrArg (fun z : Int32 × (Nat → Int32) × (Nat → Int32) × (Nat → Int32) => ([(h, .inr (8, moF b z.2.1)), ((b 1), .inl (kk 0, 120, .inl tx)), ((b 2), .inl (kk 0, 64, .inl f)), ((b 3), .inl (kk 0, 64, .inl z.2.2.1)), ((b 4), .inl (kk 0, 896, .inl dy)), ((b 5), .inl (kk 0, 128, .inl kp)), ((b 6), .inl (kk 2, 2, .inl ik)), ((b 7), .inl (kk 0, 6, .inl z.2.2.2))] : va_W)) eS.symm) hD) hS (congrArg (fun z : Int32 × (Nat → Int32) × (Nat → Int32) × (Nat → Int32) => z.1) eS) rfl dX8_command_206
    have eS := eS.trans (if_neg c_56_2)
    refine (Decidable.em (x = 4)).elim (fun c_56_3 => ?_) (fun c_56_3 => ?_)
    · have eS := eS.trans (if_pos c_56_3)
      refine lv_tableIn (tgt := 207) hx hb dX8_command_56 (by rw [c_56_3]; decide) (by rw [c_56_3]; decide) (by rw [c_56_3]; rfl) (by decide) ?_
      refine lv_iload hx hb dX8_command_207 (lv_at hl 1 rfl) ?_
      refine lv_if_eq (tgt := 221) hx hb dX8_command_209 (by decide) (fun c_209 => ?_) (fun c_209 => ?_)
      · have eS := eS.trans (if_pos c_209)
        refine lv_iconst (v := 0) hx hb dX8_command_221 (by decide) ?_
        exact fin_z hx hb hr hlocks hK (vP_eq (congrArg (fun z : Int32 × (Nat → Int32) × (Nat → Int32) × (Nat → Int32) => ([(h, .inr (8, moF b z.2.1)), ((b 1), .inl (kk 0, 120, .inl tx)), ((b 2), .inl (kk 0, 64, .inl f)), ((b 3), .inl (kk 0, 64, .inl z.2.2.1)), ((b 4), .inl (kk 0, 896, .inl dy)), ((b 5), .inl (kk 0, 128, .inl kp)), ((b 6), .inl (kk 2, 2, .inl ik)), ((b 7), .inl (kk 0, 6, .inl z.2.2.2))] : va_W)) eS.symm) hP) (vD_eq (congrArg (fun z : Int32 × (Nat → Int32) × (Nat → Int32) × (Nat → Int32) => ([(h, .inr (8, moF b z.2.1)), ((b 1), .inl (kk 0, 120, .inl tx)), ((b 2), .inl (kk 0, 64, .inl f)), ((b 3), .inl (kk 0, 64, .inl z.2.2.1)), ((b 4), .inl (kk 0, 896, .inl dy)), ((b 5), .inl (kk 0, 128, .inl kp)), ((b 6), .inl (kk 2, 2, .inl ik)), ((b 7), .inl (kk 0, 6, .inl z.2.2.2))] : va_W)) eS.symm) hD) hS (congrArg (fun z : Int32 × (Nat → Int32) × (Nat → Int32) × (Nat → Int32) => z.1) eS) rfl dX8_command_222
      · have eS := eS.trans (if_neg c_209)
        refine lv_iload_n hx hb dX8_command_212 rfl (lv_at hl 5 rfl) ?_
        refine lv_iload hx hb dX8_command_213 (lv_at hl 3 rfl) ?_
        refine k_goI (k_runS (rest := []) (As := [.int (y / 1000), .int ((y / 10) - (y / 10) / 100 * 100)]) hx hb hml hown hts hK hP hD hS hA hE hl.1 (c_X8_isSetting l G kk (y / 1000) ((y / 10) - (y / 10) / 100 * 100) ) sl_X8_198 ⟨Nat.le_of_ble_eq_true rfl, Nat.le_of_ble_eq_true rfl, rfl, rfl⟩ [] rfl rfl ⟨Nat.zero_le _, Nat.zero_le _⟩ rfl (Nat.le_of_ble_eq_true rfl) dX8_command_215) hP hD hS hA [] rfl ads0 (fun H locs hP hD hS => ?_)
        replace hP : va_P G vwCl ([(h, .inr (8, moF b q)), ((b 1), .inl (kk 0, 120, .inl tx)), ((b 2), .inl (kk 0, 64, .inl f)), ((b 3), .inl (kk 0, 64, .inl ft)), ((b 4), .inl (kk 0, 896, .inl dy)), ((b 5), .inl (kk 0, 128, .inl kp)), ((b 6), .inl (kk 2, 2, .inl ik)), ((b 7), .inl (kk 0, 6, .inl jb))]) H := hP
        replace hD : va_D A ([(h, .inr (8, moF b q)), ((b 1), .inl (kk 0, 120, .inl tx)), ((b 2), .inl (kk 0, 64, .inl f)), ((b 3), .inl (kk 0, 64, .inl ft)), ((b 4), .inl (kk 0, 896, .inl dy)), ((b 5), .inl (kk 0, 128, .inl kp)), ((b 6), .inl (kk 2, 2, .inl ik)), ((b 7), .inl (kk 0, 6, .inl jb))]) := hD
        refine lv_if_ne (tgt := 223) hx hb dX8_command_218 (by decide) (fun c_218 => ?_) (fun c_218 => ?_)
        · have eS := eS.trans (if_neg c_218)
          obtain ⟨hx1, hx2⟩ := isSt_in c_218
          refine lv_aload_n hx hb dX8_command_223 rfl (lv_at hl 6 rfl) ?_
          refine r_get (v := .ref (b 3)) hx hb hts hown hK hP fl_X8_16 0 rfl rfl dX8_command_224 ?_
          refine lv_bipush (v := 10) hx hb dX8_command_227 (by decide) ?_
          refine lv_iload_n hx hb dX8_command_229 rfl (lv_at hl 5 rfl) ?_
          refine top_eq (y := (nI ((y / 1000).toNatClampNeg))) (hx1) ?_
          refine lv_iadd hx hb dX8_command_230 ?_
          refine top_eq (nI_add 10 ((y / 1000).toNatClampNeg)) ?_
          refine lv_iload hx hb dX8_command_231 (lv_at hl 3 rfl) ?_
          refine r_iast hx hb hK hP hD hS 3 rfl (10 + ((y / 1000).toNatClampNeg)) rfl (by omega) (by decide) dX8_command_233 (fun H locs hP hD hS => ?_)
          replace hP : va_P G vwCl ([(h, .inr (8, moF b q)), ((b 1), .inl (kk 0, 120, .inl tx)), ((b 2), .inl (kk 0, 64, .inl f)), ((b 3), .inl (kk 0, 64, .inl (upd ft (10 + ((y / 1000).toNatClampNeg)) ((y / 10) - (y / 10) / 100 * 100)))), ((b 4), .inl (kk 0, 896, .inl dy)), ((b 5), .inl (kk 0, 128, .inl kp)), ((b 6), .inl (kk 2, 2, .inl ik)), ((b 7), .inl (kk 0, 6, .inl jb))]) H := hP
          replace hD : va_D A ([(h, .inr (8, moF b q)), ((b 1), .inl (kk 0, 120, .inl tx)), ((b 2), .inl (kk 0, 64, .inl f)), ((b 3), .inl (kk 0, 64, .inl (upd ft (10 + ((y / 1000).toNatClampNeg)) ((y / 10) - (y / 10) / 100 * 100)))), ((b 4), .inl (kk 0, 896, .inl dy)), ((b 5), .inl (kk 0, 128, .inl kp)), ((b 6), .inl (kk 2, 2, .inl ik)), ((b 7), .inl (kk 0, 6, .inl jb))]) := hD
          refine lv_iconst (v := 1) hx hb dX8_command_234 (by decide) ?_
          exact fin_z hx hb hr hlocks hK (vP_eq (congrArg (fun z : Int32 × (Nat → Int32) × (Nat → Int32) × (Nat → Int32) => ([(h, .inr (8, moF b z.2.1)), ((b 1), .inl (kk 0, 120, .inl tx)), ((b 2), .inl (kk 0, 64, .inl f)), ((b 3), .inl (kk 0, 64, .inl z.2.2.1)), ((b 4), .inl (kk 0, 896, .inl dy)), ((b 5), .inl (kk 0, 128, .inl kp)), ((b 6), .inl (kk 2, 2, .inl ik)), ((b 7), .inl (kk 0, 6, .inl z.2.2.2))] : va_W)) eS.symm) hP) (vD_eq (congrArg (fun z : Int32 × (Nat → Int32) × (Nat → Int32) × (Nat → Int32) => ([(h, .inr (8, moF b z.2.1)), ((b 1), .inl (kk 0, 120, .inl tx)), ((b 2), .inl (kk 0, 64, .inl f)), ((b 3), .inl (kk 0, 64, .inl z.2.2.1)), ((b 4), .inl (kk 0, 896, .inl dy)), ((b 5), .inl (kk 0, 128, .inl kp)), ((b 6), .inl (kk 2, 2, .inl ik)), ((b 7), .inl (kk 0, 6, .inl z.2.2.2))] : va_W)) eS.symm) hD) hS (congrArg (fun z : Int32 × (Nat → Int32) × (Nat → Int32) × (Nat → Int32) => z.1) eS) rfl dX8_command_235
        · have eS := eS.trans (if_pos c_218)
          refine lv_iconst (v := 0) hx hb dX8_command_221 (by decide) ?_
          exact fin_z hx hb hr hlocks hK (vP_eq (congrArg (fun z : Int32 × (Nat → Int32) × (Nat → Int32) × (Nat → Int32) => ([(h, .inr (8, moF b z.2.1)), ((b 1), .inl (kk 0, 120, .inl tx)), ((b 2), .inl (kk 0, 64, .inl f)), ((b 3), .inl (kk 0, 64, .inl z.2.2.1)), ((b 4), .inl (kk 0, 896, .inl dy)), ((b 5), .inl (kk 0, 128, .inl kp)), ((b 6), .inl (kk 2, 2, .inl ik)), ((b 7), .inl (kk 0, 6, .inl z.2.2.2))] : va_W)) eS.symm) hP) (vD_eq (congrArg (fun z : Int32 × (Nat → Int32) × (Nat → Int32) × (Nat → Int32) => ([(h, .inr (8, moF b z.2.1)), ((b 1), .inl (kk 0, 120, .inl tx)), ((b 2), .inl (kk 0, 64, .inl f)), ((b 3), .inl (kk 0, 64, .inl z.2.2.1)), ((b 4), .inl (kk 0, 896, .inl dy)), ((b 5), .inl (kk 0, 128, .inl kp)), ((b 6), .inl (kk 2, 2, .inl ik)), ((b 7), .inl (kk 0, 6, .inl z.2.2.2))] : va_W)) eS.symm) hD) hS (congrArg (fun z : Int32 × (Nat → Int32) × (Nat → Int32) × (Nat → Int32) => z.1) eS) rfl dX8_command_222
    have eS := eS.trans (if_neg c_56_3)
    refine (Decidable.em (x = 5)).elim (fun c_56_4 => ?_) (fun c_56_4 => ?_)
    · have eS := eS.trans (if_pos c_56_4)
      refine lv_tableIn (tgt := 236) hx hb dX8_command_56 (by rw [c_56_4]; decide) (by rw [c_56_4]; decide) (by rw [c_56_4]; rfl) (by decide) ?_
      refine lv_iload hx hb dX8_command_236 (lv_at hl 0 rfl) ?_
      refine lv_if_eq (tgt := 266) hx hb dX8_command_238 (by decide) (fun c_238 => ?_) (fun c_238 => ?_)
      · have eS := eS.trans (if_pos c_238)
        refine lv_iconst (v := 0) hx hb dX8_command_266 (by decide) ?_
        exact fin_z hx hb hr hlocks hK (vP_eq (congrArg (fun z : Int32 × (Nat → Int32) × (Nat → Int32) × (Nat → Int32) => ([(h, .inr (8, moF b z.2.1)), ((b 1), .inl (kk 0, 120, .inl tx)), ((b 2), .inl (kk 0, 64, .inl f)), ((b 3), .inl (kk 0, 64, .inl z.2.2.1)), ((b 4), .inl (kk 0, 896, .inl dy)), ((b 5), .inl (kk 0, 128, .inl kp)), ((b 6), .inl (kk 2, 2, .inl ik)), ((b 7), .inl (kk 0, 6, .inl z.2.2.2))] : va_W)) eS.symm) hP) (vD_eq (congrArg (fun z : Int32 × (Nat → Int32) × (Nat → Int32) × (Nat → Int32) => ([(h, .inr (8, moF b z.2.1)), ((b 1), .inl (kk 0, 120, .inl tx)), ((b 2), .inl (kk 0, 64, .inl f)), ((b 3), .inl (kk 0, 64, .inl z.2.2.1)), ((b 4), .inl (kk 0, 896, .inl dy)), ((b 5), .inl (kk 0, 128, .inl kp)), ((b 6), .inl (kk 2, 2, .inl ik)), ((b 7), .inl (kk 0, 6, .inl z.2.2.2))] : va_W)) eS.symm) hD) hS (congrArg (fun z : Int32 × (Nat → Int32) × (Nat → Int32) × (Nat → Int32) => z.1) eS) rfl dX8_command_267
      · have eS := eS.trans (if_neg c_238)
        refine lv_iload hx hb dX8_command_241 (lv_at hl 1 rfl) ?_
        refine lv_if_eq (tgt := 266) hx hb dX8_command_243 (by decide) (fun c_243 => ?_) (fun c_243 => ?_)
        · have eS := eS.trans (if_pos c_243)
          refine lv_iconst (v := 0) hx hb dX8_command_266 (by decide) ?_
          exact fin_z hx hb hr hlocks hK (vP_eq (congrArg (fun z : Int32 × (Nat → Int32) × (Nat → Int32) × (Nat → Int32) => ([(h, .inr (8, moF b z.2.1)), ((b 1), .inl (kk 0, 120, .inl tx)), ((b 2), .inl (kk 0, 64, .inl f)), ((b 3), .inl (kk 0, 64, .inl z.2.2.1)), ((b 4), .inl (kk 0, 896, .inl dy)), ((b 5), .inl (kk 0, 128, .inl kp)), ((b 6), .inl (kk 2, 2, .inl ik)), ((b 7), .inl (kk 0, 6, .inl z.2.2.2))] : va_W)) eS.symm) hP) (vD_eq (congrArg (fun z : Int32 × (Nat → Int32) × (Nat → Int32) × (Nat → Int32) => ([(h, .inr (8, moF b z.2.1)), ((b 1), .inl (kk 0, 120, .inl tx)), ((b 2), .inl (kk 0, 64, .inl f)), ((b 3), .inl (kk 0, 64, .inl z.2.2.1)), ((b 4), .inl (kk 0, 896, .inl dy)), ((b 5), .inl (kk 0, 128, .inl kp)), ((b 6), .inl (kk 2, 2, .inl ik)), ((b 7), .inl (kk 0, 6, .inl z.2.2.2))] : va_W)) eS.symm) hD) hS (congrArg (fun z : Int32 × (Nat → Int32) × (Nat → Int32) × (Nat → Int32) => z.1) eS) rfl dX8_command_267
        · have eS := eS.trans (if_neg c_243)
          obtain ⟨hx1, hx2⟩ := isRoom_in hn h6 c_238
          refine lv_aload_n hx hb dX8_command_246 rfl (lv_at hl 6 rfl) ?_
          refine r_get (v := .ref (b 3)) hx hb hts hown hK hP fl_X8_16 0 rfl rfl dX8_command_247 ?_
          refine lv_iload_n hx hb dX8_command_250 rfl (lv_at hl 5 rfl) ?_
          refine top_eq (y := (nI ((y / 1000).toNatClampNeg))) (hx1) ?_
          refine lv_iload hx hb dX8_command_251 (lv_at hl 3 rfl) ?_
          refine k_goI (k_runS (rest := []) (As := [.ref (b 3), .int (nI ((y / 1000).toNatClampNeg)), .int ((y / 10) - (y / 10) / 100 * 100)]) hx hb hml hown hts hK hP hD hS hA hE hl.1 (c_X8_goodsOn l G kk (b 3) ft ((y / 1000).toNatClampNeg) ((y / 10) - (y / 10) / 100 * 100) (by omega)) sl_X8_193 ⟨Nat.le_of_ble_eq_true rfl, Nat.le_of_ble_eq_true rfl, rfl, rfl⟩ [3] rfl rfl ⟨Nat.zero_le _, Nat.zero_le _⟩ rfl (Nat.le_of_ble_eq_true rfl) dX8_command_253) hP hD hS hA [3] rfl ads1 (fun H locs hP hD hS => ?_)
          replace hP : va_P G vwCl ([(h, .inr (8, moF b q)), ((b 1), .inl (kk 0, 120, .inl tx)), ((b 2), .inl (kk 0, 64, .inl f)), ((b 3), .inl (kk 0, 64, .inl ((sX8_goodsOn ft ((y / 1000).toNatClampNeg) ((y / 10) - (y / 10) / 100 * 100)).2))), ((b 4), .inl (kk 0, 896, .inl dy)), ((b 5), .inl (kk 0, 128, .inl kp)), ((b 6), .inl (kk 2, 2, .inl ik)), ((b 7), .inl (kk 0, 6, .inl jb))]) H := hP
          replace hD : va_D A ([(h, .inr (8, moF b q)), ((b 1), .inl (kk 0, 120, .inl tx)), ((b 2), .inl (kk 0, 64, .inl f)), ((b 3), .inl (kk 0, 64, .inl ((sX8_goodsOn ft ((y / 1000).toNatClampNeg) ((y / 10) - (y / 10) / 100 * 100)).2))), ((b 4), .inl (kk 0, 896, .inl dy)), ((b 5), .inl (kk 0, 128, .inl kp)), ((b 6), .inl (kk 2, 2, .inl ik)), ((b 7), .inl (kk 0, 6, .inl jb))]) := hD
          have eS : sX8_command q tx f ft dy kp ik jb x y n = sX8_command_z_6 q tx f ft dy kp ik jb x y n x_1 (sX8_goodsOn ft ((y / 1000).toNatClampNeg) ((y / 10) - (y / 10) / 100 * 100)) := eS
          have hz_6 := go_0 ft ((y / 1000).toNatClampNeg) ((y / 10) - (y / 10) / 100 * 100)
          generalize sX8_goodsOn ft ((y / 1000).toNatClampNeg) ((y / 10) - (y / 10) / 100 * 100) = z_6 at hP hD eS hz_6 ⊢
          refine lv_sipush (v := (-400)) hx hb dX8_command_256 (by decide) ?_
          refine lv_icmp_lt (tgt := 266) hx hb dX8_command_259 (by decide) (fun c_259 => ?_) (fun c_259 => ?_)
          · have eS := eS.trans (if_pos c_259)
            refine lv_iconst (v := 0) hx hb dX8_command_266 (by decide) ?_
            exact fin_z hx hb hr hlocks hK (vP_eq (congrArg (fun z : Int32 × (Nat → Int32) × (Nat → Int32) × (Nat → Int32) => ([(h, .inr (8, moF b z.2.1)), ((b 1), .inl (kk 0, 120, .inl tx)), ((b 2), .inl (kk 0, 64, .inl f)), ((b 3), .inl (kk 0, 64, .inl z.2.2.1)), ((b 4), .inl (kk 0, 896, .inl dy)), ((b 5), .inl (kk 0, 128, .inl kp)), ((b 6), .inl (kk 2, 2, .inl ik)), ((b 7), .inl (kk 0, 6, .inl z.2.2.2))] : va_W)) eS.symm) hP) (vD_eq (congrArg (fun z : Int32 × (Nat → Int32) × (Nat → Int32) × (Nat → Int32) => ([(h, .inr (8, moF b z.2.1)), ((b 1), .inl (kk 0, 120, .inl tx)), ((b 2), .inl (kk 0, 64, .inl f)), ((b 3), .inl (kk 0, 64, .inl z.2.2.1)), ((b 4), .inl (kk 0, 896, .inl dy)), ((b 5), .inl (kk 0, 128, .inl kp)), ((b 6), .inl (kk 2, 2, .inl ik)), ((b 7), .inl (kk 0, 6, .inl z.2.2.2))] : va_W)) eS.symm) hD) hS (congrArg (fun z : Int32 × (Nat → Int32) × (Nat → Int32) × (Nat → Int32) => z.1) eS) rfl dX8_command_267
          · have eS := eS.trans (if_neg c_259)
            refine lv_iconst (v := 1) hx hb dX8_command_262 (by decide) ?_
            refine lv_goto (tgt := 267) hx hb dX8_command_263 (by decide) ?_
            exact fin_z hx hb hr hlocks hK (vP_eq (congrArg (fun z : Int32 × (Nat → Int32) × (Nat → Int32) × (Nat → Int32) => ([(h, .inr (8, moF b z.2.1)), ((b 1), .inl (kk 0, 120, .inl tx)), ((b 2), .inl (kk 0, 64, .inl f)), ((b 3), .inl (kk 0, 64, .inl z.2.2.1)), ((b 4), .inl (kk 0, 896, .inl dy)), ((b 5), .inl (kk 0, 128, .inl kp)), ((b 6), .inl (kk 2, 2, .inl ik)), ((b 7), .inl (kk 0, 6, .inl z.2.2.2))] : va_W)) eS.symm) hP) (vD_eq (congrArg (fun z : Int32 × (Nat → Int32) × (Nat → Int32) × (Nat → Int32) => ([(h, .inr (8, moF b z.2.1)), ((b 1), .inl (kk 0, 120, .inl tx)), ((b 2), .inl (kk 0, 64, .inl f)), ((b 3), .inl (kk 0, 64, .inl z.2.2.1)), ((b 4), .inl (kk 0, 896, .inl dy)), ((b 5), .inl (kk 0, 128, .inl kp)), ((b 6), .inl (kk 2, 2, .inl ik)), ((b 7), .inl (kk 0, 6, .inl z.2.2.2))] : va_W)) eS.symm) hD) hS (congrArg (fun z : Int32 × (Nat → Int32) × (Nat → Int32) × (Nat → Int32) => z.1) eS) rfl dX8_command_267
    have eS := eS.trans (if_neg c_56_4)
    refine (Decidable.em (x = 6)).elim (fun c_56_5 => ?_) (fun c_56_5 => ?_)
    · have eS := eS.trans (if_pos c_56_5)
      refine lv_tableIn (tgt := 268) hx hb dX8_command_56 (by rw [c_56_5]; decide) (by rw [c_56_5]; decide) (by rw [c_56_5]; rfl) (by decide) ?_
      refine lv_iload hx hb dX8_command_268 (lv_at hl 0 rfl) ?_
      refine lv_if_eq (tgt := 296) hx hb dX8_command_270 (by decide) (fun c_270 => ?_) (fun c_270 => ?_)
      · have eS := eS.trans (if_pos c_270)
        refine lv_iconst (v := 0) hx hb dX8_command_296 (by decide) ?_
        exact fin_z hx hb hr hlocks hK (vP_eq (congrArg (fun z : Int32 × (Nat → Int32) × (Nat → Int32) × (Nat → Int32) => ([(h, .inr (8, moF b z.2.1)), ((b 1), .inl (kk 0, 120, .inl tx)), ((b 2), .inl (kk 0, 64, .inl f)), ((b 3), .inl (kk 0, 64, .inl z.2.2.1)), ((b 4), .inl (kk 0, 896, .inl dy)), ((b 5), .inl (kk 0, 128, .inl kp)), ((b 6), .inl (kk 2, 2, .inl ik)), ((b 7), .inl (kk 0, 6, .inl z.2.2.2))] : va_W)) eS.symm) hP) (vD_eq (congrArg (fun z : Int32 × (Nat → Int32) × (Nat → Int32) × (Nat → Int32) => ([(h, .inr (8, moF b z.2.1)), ((b 1), .inl (kk 0, 120, .inl tx)), ((b 2), .inl (kk 0, 64, .inl f)), ((b 3), .inl (kk 0, 64, .inl z.2.2.1)), ((b 4), .inl (kk 0, 896, .inl dy)), ((b 5), .inl (kk 0, 128, .inl kp)), ((b 6), .inl (kk 2, 2, .inl ik)), ((b 7), .inl (kk 0, 6, .inl z.2.2.2))] : va_W)) eS.symm) hD) hS (congrArg (fun z : Int32 × (Nat → Int32) × (Nat → Int32) × (Nat → Int32) => z.1) eS) rfl dX8_command_297
      · have eS := eS.trans (if_neg c_270)
        refine lv_iload hx hb dX8_command_273 (lv_at hl 1 rfl) ?_
        refine lv_if_eq (tgt := 296) hx hb dX8_command_275 (by decide) (fun c_275 => ?_) (fun c_275 => ?_)
        · have eS := eS.trans (if_pos c_275)
          refine lv_iconst (v := 0) hx hb dX8_command_296 (by decide) ?_
          exact fin_z hx hb hr hlocks hK (vP_eq (congrArg (fun z : Int32 × (Nat → Int32) × (Nat → Int32) × (Nat → Int32) => ([(h, .inr (8, moF b z.2.1)), ((b 1), .inl (kk 0, 120, .inl tx)), ((b 2), .inl (kk 0, 64, .inl f)), ((b 3), .inl (kk 0, 64, .inl z.2.2.1)), ((b 4), .inl (kk 0, 896, .inl dy)), ((b 5), .inl (kk 0, 128, .inl kp)), ((b 6), .inl (kk 2, 2, .inl ik)), ((b 7), .inl (kk 0, 6, .inl z.2.2.2))] : va_W)) eS.symm) hP) (vD_eq (congrArg (fun z : Int32 × (Nat → Int32) × (Nat → Int32) × (Nat → Int32) => ([(h, .inr (8, moF b z.2.1)), ((b 1), .inl (kk 0, 120, .inl tx)), ((b 2), .inl (kk 0, 64, .inl f)), ((b 3), .inl (kk 0, 64, .inl z.2.2.1)), ((b 4), .inl (kk 0, 896, .inl dy)), ((b 5), .inl (kk 0, 128, .inl kp)), ((b 6), .inl (kk 2, 2, .inl ik)), ((b 7), .inl (kk 0, 6, .inl z.2.2.2))] : va_W)) eS.symm) hD) hS (congrArg (fun z : Int32 × (Nat → Int32) × (Nat → Int32) × (Nat → Int32) => z.1) eS) rfl dX8_command_297
        · have eS := eS.trans (if_neg c_275)
          obtain ⟨hx1, hx2⟩ := isRoom_in hn h6 c_270
          refine lv_aload_n hx hb dX8_command_278 rfl (lv_at hl 6 rfl) ?_
          refine r_get (v := .ref (b 3)) hx hb hts hown hK hP fl_X8_16 0 rfl rfl dX8_command_279 ?_
          refine lv_iload_n hx hb dX8_command_282 rfl (lv_at hl 5 rfl) ?_
          refine top_eq (y := (nI ((y / 1000).toNatClampNeg))) (hx1) ?_
          refine lv_iconst (v := 5) hx hb dX8_command_283 (by decide) ?_
          refine k_goI (k_runS (rest := []) (As := [.ref (b 3), .int (nI ((y / 1000).toNatClampNeg)), .int 5]) hx hb hml hown hts hK hP hD hS hA hE hl.1 (c_X8_of l G kk (b 3) ft ((y / 1000).toNatClampNeg) 5 (by omega)) sl_X8_44 ⟨Nat.le_of_ble_eq_true rfl, Nat.le_of_ble_eq_true rfl, rfl, rfl⟩ [3] rfl rfl ⟨Nat.zero_le _, Nat.zero_le _⟩ rfl (Nat.le_of_ble_eq_true rfl) dX8_command_284) hP hD hS hA [3] rfl ads1 (fun H locs hP hD hS => ?_)
          replace hP : va_P G vwCl ([(h, .inr (8, moF b q)), ((b 1), .inl (kk 0, 120, .inl tx)), ((b 2), .inl (kk 0, 64, .inl f)), ((b 3), .inl (kk 0, 64, .inl ft)), ((b 4), .inl (kk 0, 896, .inl dy)), ((b 5), .inl (kk 0, 128, .inl kp)), ((b 6), .inl (kk 2, 2, .inl ik)), ((b 7), .inl (kk 0, 6, .inl jb))]) H := hP
          replace hD : va_D A ([(h, .inr (8, moF b q)), ((b 1), .inl (kk 0, 120, .inl tx)), ((b 2), .inl (kk 0, 64, .inl f)), ((b 3), .inl (kk 0, 64, .inl ft)), ((b 4), .inl (kk 0, 896, .inl dy)), ((b 5), .inl (kk 0, 128, .inl kp)), ((b 6), .inl (kk 2, 2, .inl ik)), ((b 7), .inl (kk 0, 6, .inl jb))]) := hD
          refine lv_iload hx hb dX8_command_287 (lv_at hl 3 rfl) ?_
          refine lv_icmp_gt (tgt := 296) hx hb dX8_command_289 (by decide) (fun c_289 => ?_) (fun c_289 => ?_)
          · have eS := eS.trans (if_pos c_289)
            refine lv_iconst (v := 0) hx hb dX8_command_296 (by decide) ?_
            exact fin_z hx hb hr hlocks hK (vP_eq (congrArg (fun z : Int32 × (Nat → Int32) × (Nat → Int32) × (Nat → Int32) => ([(h, .inr (8, moF b z.2.1)), ((b 1), .inl (kk 0, 120, .inl tx)), ((b 2), .inl (kk 0, 64, .inl f)), ((b 3), .inl (kk 0, 64, .inl z.2.2.1)), ((b 4), .inl (kk 0, 896, .inl dy)), ((b 5), .inl (kk 0, 128, .inl kp)), ((b 6), .inl (kk 2, 2, .inl ik)), ((b 7), .inl (kk 0, 6, .inl z.2.2.2))] : va_W)) eS.symm) hP) (vD_eq (congrArg (fun z : Int32 × (Nat → Int32) × (Nat → Int32) × (Nat → Int32) => ([(h, .inr (8, moF b z.2.1)), ((b 1), .inl (kk 0, 120, .inl tx)), ((b 2), .inl (kk 0, 64, .inl f)), ((b 3), .inl (kk 0, 64, .inl z.2.2.1)), ((b 4), .inl (kk 0, 896, .inl dy)), ((b 5), .inl (kk 0, 128, .inl kp)), ((b 6), .inl (kk 2, 2, .inl ik)), ((b 7), .inl (kk 0, 6, .inl z.2.2.2))] : va_W)) eS.symm) hD) hS (congrArg (fun z : Int32 × (Nat → Int32) × (Nat → Int32) × (Nat → Int32) => z.1) eS) rfl dX8_command_297
          · have eS := eS.trans (if_neg c_289)
            refine lv_iconst (v := 1) hx hb dX8_command_292 (by decide) ?_
            refine lv_goto (tgt := 297) hx hb dX8_command_293 (by decide) ?_
            exact fin_z hx hb hr hlocks hK (vP_eq (congrArg (fun z : Int32 × (Nat → Int32) × (Nat → Int32) × (Nat → Int32) => ([(h, .inr (8, moF b z.2.1)), ((b 1), .inl (kk 0, 120, .inl tx)), ((b 2), .inl (kk 0, 64, .inl f)), ((b 3), .inl (kk 0, 64, .inl z.2.2.1)), ((b 4), .inl (kk 0, 896, .inl dy)), ((b 5), .inl (kk 0, 128, .inl kp)), ((b 6), .inl (kk 2, 2, .inl ik)), ((b 7), .inl (kk 0, 6, .inl z.2.2.2))] : va_W)) eS.symm) hP) (vD_eq (congrArg (fun z : Int32 × (Nat → Int32) × (Nat → Int32) × (Nat → Int32) => ([(h, .inr (8, moF b z.2.1)), ((b 1), .inl (kk 0, 120, .inl tx)), ((b 2), .inl (kk 0, 64, .inl f)), ((b 3), .inl (kk 0, 64, .inl z.2.2.1)), ((b 4), .inl (kk 0, 896, .inl dy)), ((b 5), .inl (kk 0, 128, .inl kp)), ((b 6), .inl (kk 2, 2, .inl ik)), ((b 7), .inl (kk 0, 6, .inl z.2.2.2))] : va_W)) eS.symm) hD) hS (congrArg (fun z : Int32 × (Nat → Int32) × (Nat → Int32) × (Nat → Int32) => z.1) eS) rfl dX8_command_297
    have eS := eS.trans (if_neg c_56_5)
    refine (Decidable.em (x = 7)).elim (fun c_56_6 => ?_) (fun c_56_6 => ?_)
    · have eS := eS.trans (if_pos c_56_6)
      refine lv_tableIn (tgt := 298) hx hb dX8_command_56 (by rw [c_56_6]; decide) (by rw [c_56_6]; decide) (by rw [c_56_6]; rfl) (by decide) ?_
      refine lv_iload hx hb dX8_command_298 (lv_at hl 0 rfl) ?_
      refine lv_if_eq (tgt := 324) hx hb dX8_command_300 (by decide) (fun c_300 => ?_) (fun c_300 => ?_)
      · have eS := eS.trans (if_pos c_300)
        refine lv_iconst (v := 0) hx hb dX8_command_324 (by decide) ?_
        exact fin_z hx hb hr hlocks hK (vP_eq (congrArg (fun z : Int32 × (Nat → Int32) × (Nat → Int32) × (Nat → Int32) => ([(h, .inr (8, moF b z.2.1)), ((b 1), .inl (kk 0, 120, .inl tx)), ((b 2), .inl (kk 0, 64, .inl f)), ((b 3), .inl (kk 0, 64, .inl z.2.2.1)), ((b 4), .inl (kk 0, 896, .inl dy)), ((b 5), .inl (kk 0, 128, .inl kp)), ((b 6), .inl (kk 2, 2, .inl ik)), ((b 7), .inl (kk 0, 6, .inl z.2.2.2))] : va_W)) eS.symm) hP) (vD_eq (congrArg (fun z : Int32 × (Nat → Int32) × (Nat → Int32) × (Nat → Int32) => ([(h, .inr (8, moF b z.2.1)), ((b 1), .inl (kk 0, 120, .inl tx)), ((b 2), .inl (kk 0, 64, .inl f)), ((b 3), .inl (kk 0, 64, .inl z.2.2.1)), ((b 4), .inl (kk 0, 896, .inl dy)), ((b 5), .inl (kk 0, 128, .inl kp)), ((b 6), .inl (kk 2, 2, .inl ik)), ((b 7), .inl (kk 0, 6, .inl z.2.2.2))] : va_W)) eS.symm) hD) hS (congrArg (fun z : Int32 × (Nat → Int32) × (Nat → Int32) × (Nat → Int32) => z.1) eS) rfl dX8_command_325
      · have eS := eS.trans (if_neg c_300)
        refine lv_iload hx hb dX8_command_303 (lv_at hl 2 rfl) ?_
        refine lv_bipush (v := 8) hx hb dX8_command_305 (by decide) ?_
        refine lv_icmp_ge (tgt := 324) hx hb dX8_command_307 (by decide) (fun c_307 => ?_) (fun c_307 => ?_)
        · have eS := eS.trans (if_pos c_307)
          refine lv_iconst (v := 0) hx hb dX8_command_324 (by decide) ?_
          exact fin_z hx hb hr hlocks hK (vP_eq (congrArg (fun z : Int32 × (Nat → Int32) × (Nat → Int32) × (Nat → Int32) => ([(h, .inr (8, moF b z.2.1)), ((b 1), .inl (kk 0, 120, .inl tx)), ((b 2), .inl (kk 0, 64, .inl f)), ((b 3), .inl (kk 0, 64, .inl z.2.2.1)), ((b 4), .inl (kk 0, 896, .inl dy)), ((b 5), .inl (kk 0, 128, .inl kp)), ((b 6), .inl (kk 2, 2, .inl ik)), ((b 7), .inl (kk 0, 6, .inl z.2.2.2))] : va_W)) eS.symm) hP) (vD_eq (congrArg (fun z : Int32 × (Nat → Int32) × (Nat → Int32) × (Nat → Int32) => ([(h, .inr (8, moF b z.2.1)), ((b 1), .inl (kk 0, 120, .inl tx)), ((b 2), .inl (kk 0, 64, .inl f)), ((b 3), .inl (kk 0, 64, .inl z.2.2.1)), ((b 4), .inl (kk 0, 896, .inl dy)), ((b 5), .inl (kk 0, 128, .inl kp)), ((b 6), .inl (kk 2, 2, .inl ik)), ((b 7), .inl (kk 0, 6, .inl z.2.2.2))] : va_W)) eS.symm) hD) hS (congrArg (fun z : Int32 × (Nat → Int32) × (Nat → Int32) × (Nat → Int32) => z.1) eS) rfl dX8_command_325
        · have eS := eS.trans (if_neg c_307)
          obtain ⟨hx1, hx2⟩ := isRoom_in hn h6 c_300
          refine lv_aload_n hx hb dX8_command_310 rfl (lv_at hl 6 rfl) ?_
          refine lv_iload_n hx hb dX8_command_311 rfl (lv_at hl 5 rfl) ?_
          refine top_eq (y := (nI ((y / 1000).toNatClampNeg))) (hx1) ?_
          refine lv_iload hx hb dX8_command_312 (lv_at hl 2 rfl) ?_
          refine k_goI (k_runV (rest := []) (As := [.int (nI ((y / 1000).toNatClampNeg)), .int (y - y / 1000 * 1000)]) hx hb hml hown hts hK hP hD hS hA hE hl.1 (c_X8_doesIt l G kk h b q tx f ft dy kp ik jb n ((y / 1000).toNatClampNeg) (y - y / 1000 * 1000) hn h6 (by omega)) vl_X8_209 rfl rfl rfl ⟨Nat.le_of_ble_eq_true rfl, Nat.le_of_ble_eq_true rfl, rfl, rfl⟩ [0, 1, 2, 3, 4, 5, 6, 7] rfl rfl ⟨Nat.zero_le _, Nat.zero_le _⟩ rfl (Nat.le_of_ble_eq_true rfl) dX8_command_314) hP hD hS hA [0, 1, 2, 3, 4, 5, 6, 7] rfl ads8 (fun H locs hP hD hS => ?_)
          replace hP : va_P G vwCl ([(h, .inr (8, moF b ((sX8_doesIt q tx f ft dy kp ik jb n ((y / 1000).toNatClampNeg) (y - y / 1000 * 1000)).2.1))), ((b 1), .inl (kk 0, 120, .inl tx)), ((b 2), .inl (kk 0, 64, .inl f)), ((b 3), .inl (kk 0, 64, .inl ft)), ((b 4), .inl (kk 0, 896, .inl dy)), ((b 5), .inl (kk 0, 128, .inl kp)), ((b 6), .inl (kk 2, 2, .inl ik)), ((b 7), .inl (kk 0, 6, .inl ((sX8_doesIt q tx f ft dy kp ik jb n ((y / 1000).toNatClampNeg) (y - y / 1000 * 1000)).2.2)))]) H := hP
          replace hD : va_D A ([(h, .inr (8, moF b ((sX8_doesIt q tx f ft dy kp ik jb n ((y / 1000).toNatClampNeg) (y - y / 1000 * 1000)).2.1))), ((b 1), .inl (kk 0, 120, .inl tx)), ((b 2), .inl (kk 0, 64, .inl f)), ((b 3), .inl (kk 0, 64, .inl ft)), ((b 4), .inl (kk 0, 896, .inl dy)), ((b 5), .inl (kk 0, 128, .inl kp)), ((b 6), .inl (kk 2, 2, .inl ik)), ((b 7), .inl (kk 0, 6, .inl ((sX8_doesIt q tx f ft dy kp ik jb n ((y / 1000).toNatClampNeg) (y - y / 1000 * 1000)).2.2)))]) := hD
          have eS : sX8_command q tx f ft dy kp ik jb x y n = sX8_command_z_7 q tx f ft dy kp ik jb x y n x_1 (sX8_doesIt q tx f ft dy kp ik jb n ((y / 1000).toNatClampNeg) (y - y / 1000 * 1000)) := eS
          generalize sX8_doesIt q tx f ft dy kp ik jb n ((y / 1000).toNatClampNeg) (y - y / 1000 * 1000) = z_7 at hP hD eS ⊢
          refine lv_if_eq (tgt := 324) hx hb dX8_command_317 (by decide) (fun c_317 => ?_) (fun c_317 => ?_)
          · have eS := eS.trans (if_pos c_317)
            refine lv_iconst (v := 0) hx hb dX8_command_324 (by decide) ?_
            exact fin_z hx hb hr hlocks hK (vP_eq (congrArg (fun z : Int32 × (Nat → Int32) × (Nat → Int32) × (Nat → Int32) => ([(h, .inr (8, moF b z.2.1)), ((b 1), .inl (kk 0, 120, .inl tx)), ((b 2), .inl (kk 0, 64, .inl f)), ((b 3), .inl (kk 0, 64, .inl z.2.2.1)), ((b 4), .inl (kk 0, 896, .inl dy)), ((b 5), .inl (kk 0, 128, .inl kp)), ((b 6), .inl (kk 2, 2, .inl ik)), ((b 7), .inl (kk 0, 6, .inl z.2.2.2))] : va_W)) eS.symm) hP) (vD_eq (congrArg (fun z : Int32 × (Nat → Int32) × (Nat → Int32) × (Nat → Int32) => ([(h, .inr (8, moF b z.2.1)), ((b 1), .inl (kk 0, 120, .inl tx)), ((b 2), .inl (kk 0, 64, .inl f)), ((b 3), .inl (kk 0, 64, .inl z.2.2.1)), ((b 4), .inl (kk 0, 896, .inl dy)), ((b 5), .inl (kk 0, 128, .inl kp)), ((b 6), .inl (kk 2, 2, .inl ik)), ((b 7), .inl (kk 0, 6, .inl z.2.2.2))] : va_W)) eS.symm) hD) hS (congrArg (fun z : Int32 × (Nat → Int32) × (Nat → Int32) × (Nat → Int32) => z.1) eS) rfl dX8_command_325
          · have eS := eS.trans (if_neg c_317)
            refine lv_iconst (v := 1) hx hb dX8_command_320 (by decide) ?_
            refine lv_goto (tgt := 325) hx hb dX8_command_321 (by decide) ?_
            exact fin_z hx hb hr hlocks hK (vP_eq (congrArg (fun z : Int32 × (Nat → Int32) × (Nat → Int32) × (Nat → Int32) => ([(h, .inr (8, moF b z.2.1)), ((b 1), .inl (kk 0, 120, .inl tx)), ((b 2), .inl (kk 0, 64, .inl f)), ((b 3), .inl (kk 0, 64, .inl z.2.2.1)), ((b 4), .inl (kk 0, 896, .inl dy)), ((b 5), .inl (kk 0, 128, .inl kp)), ((b 6), .inl (kk 2, 2, .inl ik)), ((b 7), .inl (kk 0, 6, .inl z.2.2.2))] : va_W)) eS.symm) hP) (vD_eq (congrArg (fun z : Int32 × (Nat → Int32) × (Nat → Int32) × (Nat → Int32) => ([(h, .inr (8, moF b z.2.1)), ((b 1), .inl (kk 0, 120, .inl tx)), ((b 2), .inl (kk 0, 64, .inl f)), ((b 3), .inl (kk 0, 64, .inl z.2.2.1)), ((b 4), .inl (kk 0, 896, .inl dy)), ((b 5), .inl (kk 0, 128, .inl kp)), ((b 6), .inl (kk 2, 2, .inl ik)), ((b 7), .inl (kk 0, 6, .inl z.2.2.2))] : va_W)) eS.symm) hD) hS (congrArg (fun z : Int32 × (Nat → Int32) × (Nat → Int32) × (Nat → Int32) => z.1) eS) rfl dX8_command_325
    have eS := eS.trans (if_neg c_56_6)
    refine (Decidable.em (x = 8)).elim (fun c_56_7 => ?_) (fun c_56_7 => ?_)
    · have eS := eS.trans (if_pos c_56_7)
      refine lv_tableIn (tgt := 326) hx hb dX8_command_56 (by rw [c_56_7]; decide) (by rw [c_56_7]; decide) (by rw [c_56_7]; rfl) (by decide) ?_
      refine lv_iload_n hx hb dX8_command_326 rfl (lv_at hl 8 rfl) ?_
      refine lv_bipush (v := 100) hx hb dX8_command_327 (by decide) ?_
      refine lv_icmp_ge (tgt := 346) hx hb dX8_command_329 (by decide) (fun c_329 => ?_) (fun c_329 => ?_)
      · have eS := eS.trans (if_pos c_329)
        refine lv_iconst (v := 0) hx hb dX8_command_346 (by decide) ?_
        exact fin_z hx hb hr hlocks hK (vP_eq (congrArg (fun z : Int32 × (Nat → Int32) × (Nat → Int32) × (Nat → Int32) => ([(h, .inr (8, moF b z.2.1)), ((b 1), .inl (kk 0, 120, .inl tx)), ((b 2), .inl (kk 0, 64, .inl f)), ((b 3), .inl (kk 0, 64, .inl z.2.2.1)), ((b 4), .inl (kk 0, 896, .inl dy)), ((b 5), .inl (kk 0, 128, .inl kp)), ((b 6), .inl (kk 2, 2, .inl ik)), ((b 7), .inl (kk 0, 6, .inl z.2.2.2))] : va_W)) eS.symm) hP) (vD_eq (congrArg (fun z : Int32 × (Nat → Int32) × (Nat → Int32) × (Nat → Int32) => ([(h, .inr (8, moF b z.2.1)), ((b 1), .inl (kk 0, 120, .inl tx)), ((b 2), .inl (kk 0, 64, .inl f)), ((b 3), .inl (kk 0, 64, .inl z.2.2.1)), ((b 4), .inl (kk 0, 896, .inl dy)), ((b 5), .inl (kk 0, 128, .inl kp)), ((b 6), .inl (kk 2, 2, .inl ik)), ((b 7), .inl (kk 0, 6, .inl z.2.2.2))] : va_W)) eS.symm) hD) hS (congrArg (fun z : Int32 × (Nat → Int32) × (Nat → Int32) × (Nat → Int32) => z.1) eS) rfl dX8_command_347
      · have eS := eS.trans (if_neg c_329)
        refine lv_aload_n hx hb dX8_command_332 rfl (lv_at hl 6 rfl) ?_
        refine r_get (v := .ref (b 3)) hx hb hts hown hK hP fl_X8_16 0 rfl rfl dX8_command_333 ?_
        refine lv_iconst (v := 3) hx hb dX8_command_336 (by decide) ?_
        refine r_iald hx hb hK hP 3 rfl 3 rfl (by decide) (by decide) dX8_command_337 ?_
        refine lv_iload_n hx hb dX8_command_338 rfl (lv_at hl 8 rfl) ?_
        refine lv_icmp_gt (tgt := 346) hx hb dX8_command_339 (by decide) (fun c_339 => ?_) (fun c_339 => ?_)
        · have eS := eS.trans (if_pos c_339)
          refine lv_iconst (v := 0) hx hb dX8_command_346 (by decide) ?_
          exact fin_z hx hb hr hlocks hK (vP_eq (congrArg (fun z : Int32 × (Nat → Int32) × (Nat → Int32) × (Nat → Int32) => ([(h, .inr (8, moF b z.2.1)), ((b 1), .inl (kk 0, 120, .inl tx)), ((b 2), .inl (kk 0, 64, .inl f)), ((b 3), .inl (kk 0, 64, .inl z.2.2.1)), ((b 4), .inl (kk 0, 896, .inl dy)), ((b 5), .inl (kk 0, 128, .inl kp)), ((b 6), .inl (kk 2, 2, .inl ik)), ((b 7), .inl (kk 0, 6, .inl z.2.2.2))] : va_W)) eS.symm) hP) (vD_eq (congrArg (fun z : Int32 × (Nat → Int32) × (Nat → Int32) × (Nat → Int32) => ([(h, .inr (8, moF b z.2.1)), ((b 1), .inl (kk 0, 120, .inl tx)), ((b 2), .inl (kk 0, 64, .inl f)), ((b 3), .inl (kk 0, 64, .inl z.2.2.1)), ((b 4), .inl (kk 0, 896, .inl dy)), ((b 5), .inl (kk 0, 128, .inl kp)), ((b 6), .inl (kk 2, 2, .inl ik)), ((b 7), .inl (kk 0, 6, .inl z.2.2.2))] : va_W)) eS.symm) hD) hS (congrArg (fun z : Int32 × (Nat → Int32) × (Nat → Int32) × (Nat → Int32) => z.1) eS) rfl dX8_command_347
        · have eS := eS.trans (if_neg c_339)
          refine lv_iconst (v := 1) hx hb dX8_command_342 (by decide) ?_
          refine lv_goto (tgt := 347) hx hb dX8_command_343 (by decide) ?_
          exact fin_z hx hb hr hlocks hK (vP_eq (congrArg (fun z : Int32 × (Nat → Int32) × (Nat → Int32) × (Nat → Int32) => ([(h, .inr (8, moF b z.2.1)), ((b 1), .inl (kk 0, 120, .inl tx)), ((b 2), .inl (kk 0, 64, .inl f)), ((b 3), .inl (kk 0, 64, .inl z.2.2.1)), ((b 4), .inl (kk 0, 896, .inl dy)), ((b 5), .inl (kk 0, 128, .inl kp)), ((b 6), .inl (kk 2, 2, .inl ik)), ((b 7), .inl (kk 0, 6, .inl z.2.2.2))] : va_W)) eS.symm) hP) (vD_eq (congrArg (fun z : Int32 × (Nat → Int32) × (Nat → Int32) × (Nat → Int32) => ([(h, .inr (8, moF b z.2.1)), ((b 1), .inl (kk 0, 120, .inl tx)), ((b 2), .inl (kk 0, 64, .inl f)), ((b 3), .inl (kk 0, 64, .inl z.2.2.1)), ((b 4), .inl (kk 0, 896, .inl dy)), ((b 5), .inl (kk 0, 128, .inl kp)), ((b 6), .inl (kk 2, 2, .inl ik)), ((b 7), .inl (kk 0, 6, .inl z.2.2.2))] : va_W)) eS.symm) hD) hS (congrArg (fun z : Int32 × (Nat → Int32) × (Nat → Int32) × (Nat → Int32) => z.1) eS) rfl dX8_command_347
    have eS := eS.trans (if_neg c_56_7)
    refine (Decidable.em (x = 9)).elim (fun c_56_8 => ?_) (fun c_56_8 => ?_)
    · have eS := eS.trans (if_pos c_56_8)
      refine lv_tableIn (tgt := 348) hx hb dX8_command_56 (by rw [c_56_8]; decide) (by rw [c_56_8]; decide) (by rw [c_56_8]; rfl) (by decide) ?_
      refine lv_iload hx hb dX8_command_348 (lv_at hl 0 rfl) ?_
      refine lv_if_eq (tgt := 385) hx hb dX8_command_350 (by decide) (fun c_350 => ?_) (fun c_350 => ?_)
      · have eS := eS.trans (if_pos c_350)
        refine lv_iconst (v := 0) hx hb dX8_command_385 (by decide) ?_
        exact fin_z hx hb hr hlocks hK (vP_eq (congrArg (fun z : Int32 × (Nat → Int32) × (Nat → Int32) × (Nat → Int32) => ([(h, .inr (8, moF b z.2.1)), ((b 1), .inl (kk 0, 120, .inl tx)), ((b 2), .inl (kk 0, 64, .inl f)), ((b 3), .inl (kk 0, 64, .inl z.2.2.1)), ((b 4), .inl (kk 0, 896, .inl dy)), ((b 5), .inl (kk 0, 128, .inl kp)), ((b 6), .inl (kk 2, 2, .inl ik)), ((b 7), .inl (kk 0, 6, .inl z.2.2.2))] : va_W)) eS.symm) hP) (vD_eq (congrArg (fun z : Int32 × (Nat → Int32) × (Nat → Int32) × (Nat → Int32) => ([(h, .inr (8, moF b z.2.1)), ((b 1), .inl (kk 0, 120, .inl tx)), ((b 2), .inl (kk 0, 64, .inl f)), ((b 3), .inl (kk 0, 64, .inl z.2.2.1)), ((b 4), .inl (kk 0, 896, .inl dy)), ((b 5), .inl (kk 0, 128, .inl kp)), ((b 6), .inl (kk 2, 2, .inl ik)), ((b 7), .inl (kk 0, 6, .inl z.2.2.2))] : va_W)) eS.symm) hD) hS (congrArg (fun z : Int32 × (Nat → Int32) × (Nat → Int32) × (Nat → Int32) => z.1) eS) rfl dX8_command_386
      · have eS := eS.trans (if_neg c_350)
        refine lv_iload hx hb dX8_command_353 (lv_at hl 2 rfl) ?_
        refine lv_iconst (v := 2) hx hb dX8_command_355 (by decide) ?_
        refine lv_icmp_ge (tgt := 385) hx hb dX8_command_356 (by decide) (fun c_356 => ?_) (fun c_356 => ?_)
        · have eS := eS.trans (if_pos c_356)
          refine lv_iconst (v := 0) hx hb dX8_command_385 (by decide) ?_
          exact fin_z hx hb hr hlocks hK (vP_eq (congrArg (fun z : Int32 × (Nat → Int32) × (Nat → Int32) × (Nat → Int32) => ([(h, .inr (8, moF b z.2.1)), ((b 1), .inl (kk 0, 120, .inl tx)), ((b 2), .inl (kk 0, 64, .inl f)), ((b 3), .inl (kk 0, 64, .inl z.2.2.1)), ((b 4), .inl (kk 0, 896, .inl dy)), ((b 5), .inl (kk 0, 128, .inl kp)), ((b 6), .inl (kk 2, 2, .inl ik)), ((b 7), .inl (kk 0, 6, .inl z.2.2.2))] : va_W)) eS.symm) hP) (vD_eq (congrArg (fun z : Int32 × (Nat → Int32) × (Nat → Int32) × (Nat → Int32) => ([(h, .inr (8, moF b z.2.1)), ((b 1), .inl (kk 0, 120, .inl tx)), ((b 2), .inl (kk 0, 64, .inl f)), ((b 3), .inl (kk 0, 64, .inl z.2.2.1)), ((b 4), .inl (kk 0, 896, .inl dy)), ((b 5), .inl (kk 0, 128, .inl kp)), ((b 6), .inl (kk 2, 2, .inl ik)), ((b 7), .inl (kk 0, 6, .inl z.2.2.2))] : va_W)) eS.symm) hD) hS (congrArg (fun z : Int32 × (Nat → Int32) × (Nat → Int32) × (Nat → Int32) => z.1) eS) rfl dX8_command_386
        · have eS := eS.trans (if_neg c_356)
          obtain ⟨hx1, hx2⟩ := isRoom_in hn h6 c_350
          refine lv_aload_n hx hb dX8_command_359 rfl (lv_at hl 6 rfl) ?_
          refine r_get (v := .ref (b 3)) hx hb hts hown hK hP fl_X8_16 0 rfl rfl dX8_command_360 ?_
          refine lv_iload_n hx hb dX8_command_363 rfl (lv_at hl 5 rfl) ?_
          refine top_eq (y := (nI ((y / 1000).toNatClampNeg))) (hx1) ?_
          refine k_goI (k_runS (rest := []) (As := [.ref (b 3), .int (nI ((y / 1000).toNatClampNeg))]) hx hb hml hown hts hK hP hD hS hA hE hl.1 (c_X8_isWarm l G kk (b 3) ft ((y / 1000).toNatClampNeg) (by omega)) sl_X8_55 ⟨Nat.le_of_ble_eq_true rfl, Nat.le_of_ble_eq_true rfl, rfl, rfl⟩ [3] rfl rfl ⟨Nat.zero_le _, Nat.zero_le _⟩ rfl (Nat.le_of_ble_eq_true rfl) dX8_command_364) hP hD hS hA [3] rfl ads1 (fun H locs hP hD hS => ?_)
          replace hP : va_P G vwCl ([(h, .inr (8, moF b q)), ((b 1), .inl (kk 0, 120, .inl tx)), ((b 2), .inl (kk 0, 64, .inl f)), ((b 3), .inl (kk 0, 64, .inl ft)), ((b 4), .inl (kk 0, 896, .inl dy)), ((b 5), .inl (kk 0, 128, .inl kp)), ((b 6), .inl (kk 2, 2, .inl ik)), ((b 7), .inl (kk 0, 6, .inl jb))]) H := hP
          replace hD : va_D A ([(h, .inr (8, moF b q)), ((b 1), .inl (kk 0, 120, .inl tx)), ((b 2), .inl (kk 0, 64, .inl f)), ((b 3), .inl (kk 0, 64, .inl ft)), ((b 4), .inl (kk 0, 896, .inl dy)), ((b 5), .inl (kk 0, 128, .inl kp)), ((b 6), .inl (kk 2, 2, .inl ik)), ((b 7), .inl (kk 0, 6, .inl jb))]) := hD
          refine lv_iload hx hb dX8_command_367 (lv_at hl 2 rfl) ?_
          refine lv_iconst (v := 1) hx hb dX8_command_369 (by decide) ?_
          have J_11 : ∀ (x_8 : Int32) (ex_8 : x_8 = (if (y - y / 1000 * 1000) = 1 then 1 else 0)) (eS : sX8_command q tx f ft dy kp ik jb x y n = sX8_command_j378 q tx f ft dy kp ik jb x y n x_1 x_8) (H : Heap) (locs : List Loc) (ls : Array Slot) (hP : va_P G vwCl ([(h, .inr (8, moF b q)), ((b 1), .inl (kk 0, 120, .inl tx)), ((b 2), .inl (kk 0, 64, .inl f)), ((b 3), .inl (kk 0, 64, .inl ft)), ((b 4), .inl (kk 0, 896, .inl dy)), ((b 5), .inl (kk 0, 128, .inl kp)), ((b 6), .inl (kk 2, 2, .inl ik)), ((b 7), .inl (kk 0, 6, .inl jb))]) H) (hD : va_D A ([(h, .inr (8, moF b q)), ((b 1), .inl (kk 0, 120, .inl tx)), ((b 2), .inl (kk 0, 64, .inl f)), ((b 3), .inl (kk 0, 64, .inl ft)), ((b 4), .inl (kk 0, 896, .inl dy)), ((b 5), .inl (kk 0, 128, .inl kp)), ((b 6), .inl (kk 2, 2, .inl ik)), ((b 7), .inl (kk 0, 6, .inl jb))])) (hS : va_S A s.heap H locs) (hl : lv_has ls 9 [(8, .int (sX8_isRoom ft (y / 1000))), (7, .int x_1), (6, .int (y - y / 1000 * 1000)), (5, .int ((y / 10) - (y / 10) / 100 * 100)), (4, .int ((y / 100) - (y / 100) / 10 * 10)), (3, .int (y / 1000)), (0, .ref h), (1, .int x), (2, .int y)]), GO p l e (rmO 6 136) s m ([.ref h, .int x, .int y] : List Value).toArray below meth c A (QI G kk ([(h, .inr (8, moF b ((sX8_command q tx f ft dy kp ik jb x y n).2.1))), ((b 1), .inl (kk 0, 120, .inl tx)), ((b 2), .inl (kk 0, 64, .inl f)), ((b 3), .inl (kk 0, 64, .inl ((sX8_command q tx f ft dy kp ik jb x y n).2.2.1))), ((b 4), .inl (kk 0, 896, .inl dy)), ((b 5), .inl (kk 0, 128, .inl kp)), ((b 6), .inl (kk 2, 2, .inl ik)), ((b 7), .inl (kk 0, 6, .inl ((sX8_command q tx f ft dy kp ik jb x y n).2.2.2)))]) ((sX8_command q tx f ft dy kp ik jb x y n).1)) H locs (F0 m 378 ls [.int x_8, .int (sX8_isWarm ft ((y / 1000).toNatClampNeg))]) := by
            intro x_8 ex_8 eS H locs ls hP hD hS hl
            refine lv_icmp_ne (tgt := 385) hx hb dX8_command_378 (by decide) (fun c_378 => ?_) (fun c_378 => ?_)
            · have eS := eS.trans (if_neg c_378)
              refine lv_iconst (v := 0) hx hb dX8_command_385 (by decide) ?_
              exact fin_z hx hb hr hlocks hK (vP_eq (congrArg (fun z : Int32 × (Nat → Int32) × (Nat → Int32) × (Nat → Int32) => ([(h, .inr (8, moF b z.2.1)), ((b 1), .inl (kk 0, 120, .inl tx)), ((b 2), .inl (kk 0, 64, .inl f)), ((b 3), .inl (kk 0, 64, .inl z.2.2.1)), ((b 4), .inl (kk 0, 896, .inl dy)), ((b 5), .inl (kk 0, 128, .inl kp)), ((b 6), .inl (kk 2, 2, .inl ik)), ((b 7), .inl (kk 0, 6, .inl z.2.2.2))] : va_W)) eS.symm) hP) (vD_eq (congrArg (fun z : Int32 × (Nat → Int32) × (Nat → Int32) × (Nat → Int32) => ([(h, .inr (8, moF b z.2.1)), ((b 1), .inl (kk 0, 120, .inl tx)), ((b 2), .inl (kk 0, 64, .inl f)), ((b 3), .inl (kk 0, 64, .inl z.2.2.1)), ((b 4), .inl (kk 0, 896, .inl dy)), ((b 5), .inl (kk 0, 128, .inl kp)), ((b 6), .inl (kk 2, 2, .inl ik)), ((b 7), .inl (kk 0, 6, .inl z.2.2.2))] : va_W)) eS.symm) hD) hS (congrArg (fun z : Int32 × (Nat → Int32) × (Nat → Int32) × (Nat → Int32) => z.1) eS) rfl dX8_command_386
            · have eS := eS.trans (if_pos c_378)
              refine lv_iconst (v := 1) hx hb dX8_command_381 (by decide) ?_
              refine lv_goto (tgt := 386) hx hb dX8_command_382 (by decide) ?_
              exact fin_z hx hb hr hlocks hK (vP_eq (congrArg (fun z : Int32 × (Nat → Int32) × (Nat → Int32) × (Nat → Int32) => ([(h, .inr (8, moF b z.2.1)), ((b 1), .inl (kk 0, 120, .inl tx)), ((b 2), .inl (kk 0, 64, .inl f)), ((b 3), .inl (kk 0, 64, .inl z.2.2.1)), ((b 4), .inl (kk 0, 896, .inl dy)), ((b 5), .inl (kk 0, 128, .inl kp)), ((b 6), .inl (kk 2, 2, .inl ik)), ((b 7), .inl (kk 0, 6, .inl z.2.2.2))] : va_W)) eS.symm) hP) (vD_eq (congrArg (fun z : Int32 × (Nat → Int32) × (Nat → Int32) × (Nat → Int32) => ([(h, .inr (8, moF b z.2.1)), ((b 1), .inl (kk 0, 120, .inl tx)), ((b 2), .inl (kk 0, 64, .inl f)), ((b 3), .inl (kk 0, 64, .inl z.2.2.1)), ((b 4), .inl (kk 0, 896, .inl dy)), ((b 5), .inl (kk 0, 128, .inl kp)), ((b 6), .inl (kk 2, 2, .inl ik)), ((b 7), .inl (kk 0, 6, .inl z.2.2.2))] : va_W)) eS.symm) hD) hS (congrArg (fun z : Int32 × (Nat → Int32) × (Nat → Int32) × (Nat → Int32) => z.1) eS) rfl dX8_command_386
          refine lv_icmp_ne (tgt := 377) hx hb dX8_command_370 (by decide) (fun c_370 => ?_) (fun c_370 => ?_)
          · refine lv_iconst (v := 0) hx hb dX8_command_377 (by decide) ?_
            exact J_11 0 (if_neg c_370).symm (eS.trans (cg1 (sX8_command_j378 q tx f ft dy kp ik jb x y n x_1) (if_neg c_370))) _ _ ls hP hD hS (lv_sub hl [0, 1, 2, 3, 4, 5, 6, 7, 8] rfl)
          · refine lv_iconst (v := 1) hx hb dX8_command_373 (by decide) ?_
            refine lv_goto (tgt := 378) hx hb dX8_command_374 (by decide) ?_
            exact J_11 1 (if_pos c_370).symm (eS.trans (cg1 (sX8_command_j378 q tx f ft dy kp ik jb x y n x_1) (if_pos c_370))) _ _ ls hP hD hS (lv_sub hl [0, 1, 2, 3, 4, 5, 6, 7, 8] rfl)
    have eS := eS.trans (if_neg c_56_8)
    refine lv_tableOut (tgt := 387) hx hb dX8_command_56 (by have t0 := lv_neT (a := 1) c_56_0 (by decide); have t1 := lv_neT (a := 2) c_56_1 (by decide); have t2 := lv_neT (a := 3) c_56_2 (by decide); have t3 := lv_neT (a := 4) c_56_3 (by decide); have t4 := lv_neT (a := 5) c_56_4 (by decide); have t5 := lv_neT (a := 6) c_56_5 (by decide); have t6 := lv_neT (a := 7) c_56_6 (by decide); have t7 := lv_neT (a := 8) c_56_7 (by decide); have t8 := lv_neT (a := 9) c_56_8 (by decide); omega) (by decide) ?_
    refine lv_iconst (v := 0) hx hb dX8_command_387 (by decide) ?_
    exact fin_z hx hb hr hlocks hK (vP_eq (congrArg (fun z : Int32 × (Nat → Int32) × (Nat → Int32) × (Nat → Int32) => ([(h, .inr (8, moF b z.2.1)), ((b 1), .inl (kk 0, 120, .inl tx)), ((b 2), .inl (kk 0, 64, .inl f)), ((b 3), .inl (kk 0, 64, .inl z.2.2.1)), ((b 4), .inl (kk 0, 896, .inl dy)), ((b 5), .inl (kk 0, 128, .inl kp)), ((b 6), .inl (kk 2, 2, .inl ik)), ((b 7), .inl (kk 0, 6, .inl z.2.2.2))] : va_W)) eS.symm) hP) (vD_eq (congrArg (fun z : Int32 × (Nat → Int32) × (Nat → Int32) × (Nat → Int32) => ([(h, .inr (8, moF b z.2.1)), ((b 1), .inl (kk 0, 120, .inl tx)), ((b 2), .inl (kk 0, 64, .inl f)), ((b 3), .inl (kk 0, 64, .inl z.2.2.1)), ((b 4), .inl (kk 0, 896, .inl dy)), ((b 5), .inl (kk 0, 128, .inl kp)), ((b 6), .inl (kk 2, 2, .inl ik)), ((b 7), .inl (kk 0, 6, .inl z.2.2.2))] : va_W)) eS.symm) hD) hS (congrArg (fun z : Int32 × (Nat → Int32) × (Nat → Int32) × (Nat → Int32) => z.1) eS) rfl dX8_command_388
  refine lv_if_ne (tgt := 42) hx hb dX8_command_35 (by decide) (fun c_35 => ?_) (fun c_35 => ?_)
  · refine lv_iconst (v := 0) hx hb dX8_command_42 (by decide) ?_
    exact J_9 0 (if_neg c_35).symm (eS.trans (cg1 (sX8_command_j43 q tx f ft dy kp ik jb x y n) (if_neg c_35))) _ _ ls hP hD hS (lv_sub hl [0, 1, 2, 3, 4, 5, 6] rfl)
  · refine lv_iconst (v := 1) hx hb dX8_command_38 (by decide) ?_
    refine lv_goto (tgt := 43) hx hb dX8_command_39 (by decide) ?_
    exact J_9 1 (if_pos c_35).symm (eS.trans (cg1 (sX8_command_j43 q tx f ft dy kp ik jb x y n) (if_pos c_35))) _ _ ls hP hD hS (lv_sub hl [0, 1, 2, 3, 4, 5, 6] rfl)
def sX8_turn_z_1 (q : Nat → Int32) (tx : Nat → Int32) (f : Nat → Int32) (ft : Nat → Int32) (dy : Nat → Int32) (kp : Nat → Int32) (ik : Nat → Int32) (jb : Nat → Int32) (x : Int32) (n : Nat) (z_1 : Int32 × (Nat → Int32) × (Nat → Int32) × (Nat → Int32)) : (Nat → Int32) × (Nat → Int32) × (Nat → Int32) :=
  (z_1.2.1, z_1.2.2.2, z_1.2.2.1)
def sX8_turn_z_2 (q : Nat → Int32) (tx : Nat → Int32) (f : Nat → Int32) (ft : Nat → Int32) (dy : Nat → Int32) (kp : Nat → Int32) (ik : Nat → Int32) (jb : Nat → Int32) (x : Int32) (n : Nat) (z_2 : Int32 × (Nat → Int32)) : (Nat → Int32) × (Nat → Int32) × (Nat → Int32) :=
  (q, z_2.2, jb)
def sX8_turn_z_4 (q : Nat → Int32) (tx : Nat → Int32) (f : Nat → Int32) (ft : Nat → Int32) (dy : Nat → Int32) (kp : Nat → Int32) (ik : Nat → Int32) (jb : Nat → Int32) (x : Int32) (n : Nat) (x_3 : Int32) (z_4 : Int32 × (Nat → Int32)) : (Nat → Int32) × (Nat → Int32) × (Nat → Int32) :=
  (q, z_4.2, jb)
def sX8_turn_j52 (q : Nat → Int32) (tx : Nat → Int32) (f : Nat → Int32) (ft : Nat → Int32) (dy : Nat → Int32) (kp : Nat → Int32) (ik : Nat → Int32) (jb : Nat → Int32) (x : Int32) (n : Nat) (x_3 : Int32) : (Nat → Int32) × (Nat → Int32) × (Nat → Int32) :=
  (sX8_turn_z_4 q tx f ft dy kp ik jb x n x_3 (sX8_doorOn ft n ((x / 8 - x / 8 / 6 * 6).toNatClampNeg) x_3))
def sX8_turn (q : Nat → Int32) (tx : Nat → Int32) (f : Nat → Int32) (ft : Nat → Int32) (dy : Nat → Int32) (kp : Nat → Int32) (ik : Nat → Int32) (jb : Nat → Int32) (x : Int32) (n : Nat) : (Nat → Int32) × (Nat → Int32) × (Nat → Int32) :=
  (if 2 ≤ (x - x / 8 * 8) then (if (x - x / 8 * 8) = 2 then (if (sX8_isRoom ft ((x / 8) - (x / 8) / 6 * 6)) = 0 then (q, ft, jb) else (sX8_turn_z_2 q tx f ft dy kp ik jb x n (sX8_goodsOn ft ((x / 8 - x / 8 / 6 * 6).toNatClampNeg) ((((x / 8) / 8) - ((x / 8) / 8) / 401 * 401) - 200)))) else (if (x - x / 8 * 8) = 3 then (q, (upd ft 10 ((x / 8) - (x / 8) / 1000 * 1000)), jb) else (if (x - x / 8 * 8) = 4 then (q, (upd ft 14 (1 + ((x / 8) - (x / 8) / 100 * 100))), jb) else (sX8_turn_z_1 q tx f ft dy kp ik jb x n (sX8_runOn q jb ft (1 + ((x / 8) - (x / 8) / 15 * 15)) n))))) else (if (sX8_isRoom ft ((x / 8) - (x / 8) / 6 * 6)) = 0 then (q, ft, jb) else (sX8_turn_j52 q tx f ft dy kp ik jb x n (if (((x / 8) / 8) - ((x / 8) / 8) / 3 * 3) = 0 then 1 else 0))))
set_option maxRecDepth 100000 in
set_option maxHeartbeats 4000000 in
theorem c_X8_turn (l : Launch) (G : va_G) (kk : Nat → ClassId) (h : Nat) (b : Nat → Nat) (q : Nat → Int32) (tx : Nat → Int32) (f : Nat → Int32) (ft : Nat → Int32) (dy : Nat → Int32) (kp : Nat → Int32) (ik : Nat → Int32) (jb : Nat → Int32) (x : Int32) (n : Nat) (hn : ft 0 = nI n) (h6 : n ≤ 6) (hx0 : 0 ≤ x.toInt) : CC l yX8_turn cX8_turn 5 none (rmO 6 136) [.ref h, .int x] G kk ([(h, .inr (8, moF b q)), ((b 1), .inl (kk 0, 120, .inl tx)), ((b 2), .inl (kk 0, 64, .inl f)), ((b 3), .inl (kk 0, 64, .inl ft)), ((b 4), .inl (kk 0, 896, .inl dy)), ((b 5), .inl (kk 0, 128, .inl kp)), ((b 6), .inl (kk 2, 2, .inl ik)), ((b 7), .inl (kk 0, 6, .inl jb))]) (QV G kk ([(h, .inr (8, moF b ((sX8_turn q tx f ft dy kp ik jb x n).1))), ((b 1), .inl (kk 0, 120, .inl tx)), ((b 2), .inl (kk 0, 64, .inl f)), ((b 3), .inl (kk 0, 64, .inl ((sX8_turn q tx f ft dy kp ik jb x n).2.1))), ((b 4), .inl (kk 0, 896, .inl dy)), ((b 5), .inl (kk 0, 128, .inl kp)), ((b 6), .inl (kk 2, 2, .inl ik)), ((b 7), .inl (kk 0, 6, .inl ((sX8_turn q tx f ft dy kp ik jb x n).2.2)))])) := by
  refine cc_start (by decide +kernel) (Nat.le_of_ble_eq_true rfl) ?_
  intro p e s m below meth c A ls hx hb hr hml hown hts hlocks hA hE hK hP hD hS hl
  have hown : s.vm.findClass RX8 = some m.cls := hown
  have hl : lv_has ls 5 [(0, .ref h), (1, .int x)] := hl
  have eS : sX8_turn q tx f ft dy kp ik jb x n = sX8_turn q tx f ft dy kp ik jb x n := rfl
  refine lv_iload_n hx hb dX8_turn_0 rfl (lv_at hl 1 rfl) ?_
  refine lv_bipush (v := 8) hx hb dX8_turn_1 (by decide) ?_
  refine lv_idiv hx hb dX8_turn_3 (by decide) ?_
  refine lv_istore_n (lv' := [(2, .int (x / 8)), (0, .ref h), (1, .int x)]) hx hb dX8_turn_4 rfl hl (by decide) rfl (fun ls hl => ?_)
  refine lv_iload_n hx hb dX8_turn_5 rfl (lv_at hl 0 rfl) ?_
  refine lv_bipush (v := 6) hx hb dX8_turn_6 (by decide) ?_
  refine lv_irem hx hb dX8_turn_8 (by decide) ?_
  refine lv_istore_n (lv' := [(3, .int ((x / 8) - (x / 8) / 6 * 6)), (2, .int (x / 8)), (0, .ref h), (1, .int x)]) hx hb dX8_turn_9 rfl hl (by decide) rfl (fun ls hl => ?_)
  refine lv_iload_n hx hb dX8_turn_10 rfl (lv_at hl 3 rfl) ?_
  refine lv_bipush (v := 8) hx hb dX8_turn_11 (by decide) ?_
  refine lv_irem hx hb dX8_turn_13 (by decide) ?_
  refine lv_istore (lv' := [(4, .int (x - x / 8 * 8)), (3, .int ((x / 8) - (x / 8) / 6 * 6)), (2, .int (x / 8)), (0, .ref h), (1, .int x)]) hx hb dX8_turn_14 hl (by decide) rfl (fun ls hl => ?_)
  refine lv_iload hx hb dX8_turn_16 (lv_at hl 0 rfl) ?_
  refine lv_iconst (v := 2) hx hb dX8_turn_18 (by decide) ?_
  refine lv_icmp_ge (tgt := 59) hx hb dX8_turn_19 (by decide) (fun c_19 => ?_) (fun c_19 => ?_)
  · have eS := eS.trans (if_pos c_19)
    refine lv_iload hx hb dX8_turn_59 (lv_at hl 0 rfl) ?_
    refine lv_iconst (v := 2) hx hb dX8_turn_61 (by decide) ?_
    refine lv_icmp_ne (tgt := 100) hx hb dX8_turn_62 (by decide) (fun c_62 => ?_) (fun c_62 => ?_)
    · have eS := eS.trans (if_neg c_62)
      refine lv_iload hx hb dX8_turn_100 (lv_at hl 0 rfl) ?_
      refine lv_iconst (v := 3) hx hb dX8_turn_102 (by decide) ?_
      refine lv_icmp_ne (tgt := 121) hx hb dX8_turn_103 (by decide) (fun c_103 => ?_) (fun c_103 => ?_)
      · have eS := eS.trans (if_neg c_103)
        refine lv_iload hx hb dX8_turn_121 (lv_at hl 0 rfl) ?_
        refine lv_iconst (v := 4) hx hb dX8_turn_123 (by decide) ?_
        refine lv_icmp_ne (tgt := 143) hx hb dX8_turn_124 (by decide) (fun c_124 => ?_) (fun c_124 => ?_)
        · have eS := eS.trans (if_neg c_124)
          have hm := tu_m hx0
          refine lv_aload_n hx hb dX8_turn_143 rfl (lv_at hl 3 rfl) ?_
          refine lv_aload_n hx hb dX8_turn_144 rfl (lv_at hl 3 rfl) ?_
          refine r_get (v := .ref (b 3)) hx hb hts hown hK hP fl_X8_16 0 rfl rfl dX8_turn_145 ?_
          refine lv_iconst (v := 1) hx hb dX8_turn_148 (by decide) ?_
          refine lv_iload_n hx hb dX8_turn_149 rfl (lv_at hl 2 rfl) ?_
          refine lv_bipush (v := 15) hx hb dX8_turn_150 (by decide) ?_
          refine lv_irem hx hb dX8_turn_152 (by decide) ?_
          refine lv_iadd hx hb dX8_turn_153 ?_
          refine k_goI (k_runV (rest := []) (As := [.ref (b 3), .int (1 + ((x / 8) - (x / 8) / 15 * 15))]) hx hb hml hown hts hK hP hD hS hA hE hl.1 (c_X8_runOn l G kk h b q jb (b 3) ft (1 + ((x / 8) - (x / 8) / 15 * 15)) n hn h6 hm) vl_X8_165 rfl rfl rfl ⟨Nat.le_of_ble_eq_true rfl, Nat.le_of_ble_eq_true rfl, rfl, rfl⟩ [0, 7, 3] rfl rfl ⟨Nat.zero_le _, Nat.zero_le _⟩ rfl (Nat.le_of_ble_eq_true rfl) dX8_turn_154) hP hD hS hA [0, 7, 3] rfl ads3 (fun H locs hP hD hS => ?_)
          replace hP : va_P G vwCl ([(h, .inr (8, moF b ((sX8_runOn q jb ft (1 + ((x / 8) - (x / 8) / 15 * 15)) n).2.1))), ((b 1), .inl (kk 0, 120, .inl tx)), ((b 2), .inl (kk 0, 64, .inl f)), ((b 3), .inl (kk 0, 64, .inl ((sX8_runOn q jb ft (1 + ((x / 8) - (x / 8) / 15 * 15)) n).2.2.2))), ((b 4), .inl (kk 0, 896, .inl dy)), ((b 5), .inl (kk 0, 128, .inl kp)), ((b 6), .inl (kk 2, 2, .inl ik)), ((b 7), .inl (kk 0, 6, .inl ((sX8_runOn q jb ft (1 + ((x / 8) - (x / 8) / 15 * 15)) n).2.2.1)))]) H := hP
          replace hD : va_D A ([(h, .inr (8, moF b ((sX8_runOn q jb ft (1 + ((x / 8) - (x / 8) / 15 * 15)) n).2.1))), ((b 1), .inl (kk 0, 120, .inl tx)), ((b 2), .inl (kk 0, 64, .inl f)), ((b 3), .inl (kk 0, 64, .inl ((sX8_runOn q jb ft (1 + ((x / 8) - (x / 8) / 15 * 15)) n).2.2.2))), ((b 4), .inl (kk 0, 896, .inl dy)), ((b 5), .inl (kk 0, 128, .inl kp)), ((b 6), .inl (kk 2, 2, .inl ik)), ((b 7), .inl (kk 0, 6, .inl ((sX8_runOn q jb ft (1 + ((x / 8) - (x / 8) / 15 * 15)) n).2.2.1)))]) := hD
          have eS : sX8_turn q tx f ft dy kp ik jb x n = sX8_turn_z_1 q tx f ft dy kp ik jb x n (sX8_runOn q jb ft (1 + ((x / 8) - (x / 8) / 15 * 15)) n) := eS
          have hz_1 := rn_0 h6 q jb ft (1 + ((x / 8) - (x / 8) / 15 * 15))
          generalize sX8_runOn q jb ft (1 + ((x / 8) - (x / 8) / 15 * 15)) n = z_1 at hP hD eS hz_1 ⊢
          refine lv_pop hx hb dX8_turn_157 rfl ?_
          exact fin_v hx hb hr hlocks hK (vP_eq (congrArg (fun z : (Nat → Int32) × (Nat → Int32) × (Nat → Int32) => ([(h, .inr (8, moF b z.1)), ((b 1), .inl (kk 0, 120, .inl tx)), ((b 2), .inl (kk 0, 64, .inl f)), ((b 3), .inl (kk 0, 64, .inl z.2.1)), ((b 4), .inl (kk 0, 896, .inl dy)), ((b 5), .inl (kk 0, 128, .inl kp)), ((b 6), .inl (kk 2, 2, .inl ik)), ((b 7), .inl (kk 0, 6, .inl z.2.2))] : va_W)) eS.symm) hP) (vD_eq (congrArg (fun z : (Nat → Int32) × (Nat → Int32) × (Nat → Int32) => ([(h, .inr (8, moF b z.1)), ((b 1), .inl (kk 0, 120, .inl tx)), ((b 2), .inl (kk 0, 64, .inl f)), ((b 3), .inl (kk 0, 64, .inl z.2.1)), ((b 4), .inl (kk 0, 896, .inl dy)), ((b 5), .inl (kk 0, 128, .inl kp)), ((b 6), .inl (kk 2, 2, .inl ik)), ((b 7), .inl (kk 0, 6, .inl z.2.2))] : va_W)) eS.symm) hD) hS dX8_turn_158
        · have eS := eS.trans (if_pos c_124)
          refine lv_aload_n hx hb dX8_turn_127 rfl (lv_at hl 3 rfl) ?_
          refine r_get (v := .ref (b 3)) hx hb hts hown hK hP fl_X8_16 0 rfl rfl dX8_turn_128 ?_
          refine lv_bipush (v := 14) hx hb dX8_turn_131 (by decide) ?_
          refine lv_iconst (v := 1) hx hb dX8_turn_133 (by decide) ?_
          refine lv_iload_n hx hb dX8_turn_134 rfl (lv_at hl 2 rfl) ?_
          refine lv_bipush (v := 100) hx hb dX8_turn_135 (by decide) ?_
          refine lv_irem hx hb dX8_turn_137 (by decide) ?_
          refine lv_iadd hx hb dX8_turn_138 ?_
          refine r_iast hx hb hK hP hD hS 3 rfl 14 rfl (by decide) (by decide) dX8_turn_139 (fun H locs hP hD hS => ?_)
          replace hP : va_P G vwCl ([(h, .inr (8, moF b q)), ((b 1), .inl (kk 0, 120, .inl tx)), ((b 2), .inl (kk 0, 64, .inl f)), ((b 3), .inl (kk 0, 64, .inl (upd ft 14 (1 + ((x / 8) - (x / 8) / 100 * 100))))), ((b 4), .inl (kk 0, 896, .inl dy)), ((b 5), .inl (kk 0, 128, .inl kp)), ((b 6), .inl (kk 2, 2, .inl ik)), ((b 7), .inl (kk 0, 6, .inl jb))]) H := hP
          replace hD : va_D A ([(h, .inr (8, moF b q)), ((b 1), .inl (kk 0, 120, .inl tx)), ((b 2), .inl (kk 0, 64, .inl f)), ((b 3), .inl (kk 0, 64, .inl (upd ft 14 (1 + ((x / 8) - (x / 8) / 100 * 100))))), ((b 4), .inl (kk 0, 896, .inl dy)), ((b 5), .inl (kk 0, 128, .inl kp)), ((b 6), .inl (kk 2, 2, .inl ik)), ((b 7), .inl (kk 0, 6, .inl jb))]) := hD
          refine lv_goto (tgt := 158) hx hb dX8_turn_140 (by decide) ?_
          exact fin_v hx hb hr hlocks hK (vP_eq (congrArg (fun z : (Nat → Int32) × (Nat → Int32) × (Nat → Int32) => ([(h, .inr (8, moF b z.1)), ((b 1), .inl (kk 0, 120, .inl tx)), ((b 2), .inl (kk 0, 64, .inl f)), ((b 3), .inl (kk 0, 64, .inl z.2.1)), ((b 4), .inl (kk 0, 896, .inl dy)), ((b 5), .inl (kk 0, 128, .inl kp)), ((b 6), .inl (kk 2, 2, .inl ik)), ((b 7), .inl (kk 0, 6, .inl z.2.2))] : va_W)) eS.symm) hP) (vD_eq (congrArg (fun z : (Nat → Int32) × (Nat → Int32) × (Nat → Int32) => ([(h, .inr (8, moF b z.1)), ((b 1), .inl (kk 0, 120, .inl tx)), ((b 2), .inl (kk 0, 64, .inl f)), ((b 3), .inl (kk 0, 64, .inl z.2.1)), ((b 4), .inl (kk 0, 896, .inl dy)), ((b 5), .inl (kk 0, 128, .inl kp)), ((b 6), .inl (kk 2, 2, .inl ik)), ((b 7), .inl (kk 0, 6, .inl z.2.2))] : va_W)) eS.symm) hD) hS dX8_turn_158
      · have eS := eS.trans (if_pos c_103)
        refine lv_aload_n hx hb dX8_turn_106 rfl (lv_at hl 3 rfl) ?_
        refine r_get (v := .ref (b 3)) hx hb hts hown hK hP fl_X8_16 0 rfl rfl dX8_turn_107 ?_
        refine lv_bipush (v := 10) hx hb dX8_turn_110 (by decide) ?_
        refine lv_iload_n hx hb dX8_turn_112 rfl (lv_at hl 2 rfl) ?_
        refine lv_sipush (v := 1000) hx hb dX8_turn_113 (by decide) ?_
        refine lv_irem hx hb dX8_turn_116 (by decide) ?_
        refine r_iast hx hb hK hP hD hS 3 rfl 10 rfl (by decide) (by decide) dX8_turn_117 (fun H locs hP hD hS => ?_)
        replace hP : va_P G vwCl ([(h, .inr (8, moF b q)), ((b 1), .inl (kk 0, 120, .inl tx)), ((b 2), .inl (kk 0, 64, .inl f)), ((b 3), .inl (kk 0, 64, .inl (upd ft 10 ((x / 8) - (x / 8) / 1000 * 1000)))), ((b 4), .inl (kk 0, 896, .inl dy)), ((b 5), .inl (kk 0, 128, .inl kp)), ((b 6), .inl (kk 2, 2, .inl ik)), ((b 7), .inl (kk 0, 6, .inl jb))]) H := hP
        replace hD : va_D A ([(h, .inr (8, moF b q)), ((b 1), .inl (kk 0, 120, .inl tx)), ((b 2), .inl (kk 0, 64, .inl f)), ((b 3), .inl (kk 0, 64, .inl (upd ft 10 ((x / 8) - (x / 8) / 1000 * 1000)))), ((b 4), .inl (kk 0, 896, .inl dy)), ((b 5), .inl (kk 0, 128, .inl kp)), ((b 6), .inl (kk 2, 2, .inl ik)), ((b 7), .inl (kk 0, 6, .inl jb))]) := hD
        refine lv_goto (tgt := 158) hx hb dX8_turn_118 (by decide) ?_
        exact fin_v hx hb hr hlocks hK (vP_eq (congrArg (fun z : (Nat → Int32) × (Nat → Int32) × (Nat → Int32) => ([(h, .inr (8, moF b z.1)), ((b 1), .inl (kk 0, 120, .inl tx)), ((b 2), .inl (kk 0, 64, .inl f)), ((b 3), .inl (kk 0, 64, .inl z.2.1)), ((b 4), .inl (kk 0, 896, .inl dy)), ((b 5), .inl (kk 0, 128, .inl kp)), ((b 6), .inl (kk 2, 2, .inl ik)), ((b 7), .inl (kk 0, 6, .inl z.2.2))] : va_W)) eS.symm) hP) (vD_eq (congrArg (fun z : (Nat → Int32) × (Nat → Int32) × (Nat → Int32) => ([(h, .inr (8, moF b z.1)), ((b 1), .inl (kk 0, 120, .inl tx)), ((b 2), .inl (kk 0, 64, .inl f)), ((b 3), .inl (kk 0, 64, .inl z.2.1)), ((b 4), .inl (kk 0, 896, .inl dy)), ((b 5), .inl (kk 0, 128, .inl kp)), ((b 6), .inl (kk 2, 2, .inl ik)), ((b 7), .inl (kk 0, 6, .inl z.2.2))] : va_W)) eS.symm) hD) hS dX8_turn_158
    · have eS := eS.trans (if_pos c_62)
      refine lv_aload_n hx hb dX8_turn_65 rfl (lv_at hl 3 rfl) ?_
      refine r_get (v := .ref (b 3)) hx hb hts hown hK hP fl_X8_16 0 rfl rfl dX8_turn_66 ?_
      refine lv_iload_n hx hb dX8_turn_69 rfl (lv_at hl 1 rfl) ?_
      refine k_goI (k_runS (rest := []) (As := [.ref (b 3), .int ((x / 8) - (x / 8) / 6 * 6)]) hx hb hml hown hts hK hP hD hS hA hE hl.1 (c_X8_isRoom l G kk (b 3) ft ((x / 8) - (x / 8) / 6 * 6) ) sl_X8_158 ⟨Nat.le_of_ble_eq_true rfl, Nat.le_of_ble_eq_true rfl, rfl, rfl⟩ [3] rfl rfl ⟨Nat.zero_le _, Nat.zero_le _⟩ rfl (Nat.le_of_ble_eq_true rfl) dX8_turn_70) hP hD hS hA [3] rfl ads1 (fun H locs hP hD hS => ?_)
      replace hP : va_P G vwCl ([(h, .inr (8, moF b q)), ((b 1), .inl (kk 0, 120, .inl tx)), ((b 2), .inl (kk 0, 64, .inl f)), ((b 3), .inl (kk 0, 64, .inl ft)), ((b 4), .inl (kk 0, 896, .inl dy)), ((b 5), .inl (kk 0, 128, .inl kp)), ((b 6), .inl (kk 2, 2, .inl ik)), ((b 7), .inl (kk 0, 6, .inl jb))]) H := hP
      replace hD : va_D A ([(h, .inr (8, moF b q)), ((b 1), .inl (kk 0, 120, .inl tx)), ((b 2), .inl (kk 0, 64, .inl f)), ((b 3), .inl (kk 0, 64, .inl ft)), ((b 4), .inl (kk 0, 896, .inl dy)), ((b 5), .inl (kk 0, 128, .inl kp)), ((b 6), .inl (kk 2, 2, .inl ik)), ((b 7), .inl (kk 0, 6, .inl jb))]) := hD
      refine lv_if_eq (tgt := 158) hx hb dX8_turn_73 (by decide) (fun c_73 => ?_) (fun c_73 => ?_)
      · have eS := eS.trans (if_pos c_73)
        exact fin_v hx hb hr hlocks hK (vP_eq (congrArg (fun z : (Nat → Int32) × (Nat → Int32) × (Nat → Int32) => ([(h, .inr (8, moF b z.1)), ((b 1), .inl (kk 0, 120, .inl tx)), ((b 2), .inl (kk 0, 64, .inl f)), ((b 3), .inl (kk 0, 64, .inl z.2.1)), ((b 4), .inl (kk 0, 896, .inl dy)), ((b 5), .inl (kk 0, 128, .inl kp)), ((b 6), .inl (kk 2, 2, .inl ik)), ((b 7), .inl (kk 0, 6, .inl z.2.2))] : va_W)) eS.symm) hP) (vD_eq (congrArg (fun z : (Nat → Int32) × (Nat → Int32) × (Nat → Int32) => ([(h, .inr (8, moF b z.1)), ((b 1), .inl (kk 0, 120, .inl tx)), ((b 2), .inl (kk 0, 64, .inl f)), ((b 3), .inl (kk 0, 64, .inl z.2.1)), ((b 4), .inl (kk 0, 896, .inl dy)), ((b 5), .inl (kk 0, 128, .inl kp)), ((b 6), .inl (kk 2, 2, .inl ik)), ((b 7), .inl (kk 0, 6, .inl z.2.2))] : va_W)) eS.symm) hD) hS dX8_turn_158
      · have eS := eS.trans (if_neg c_73)
        obtain ⟨hx1, hx2⟩ := isRoom_in hn h6 c_73
        refine lv_aload_n hx hb dX8_turn_76 rfl (lv_at hl 3 rfl) ?_
        refine r_get (v := .ref (b 3)) hx hb hts hown hK hP fl_X8_16 0 rfl rfl dX8_turn_77 ?_
        refine lv_iload_n hx hb dX8_turn_80 rfl (lv_at hl 1 rfl) ?_
        refine top_eq (y := (nI ((x / 8 - x / 8 / 6 * 6).toNatClampNeg))) (hx1) ?_
        refine lv_iload_n hx hb dX8_turn_81 rfl (lv_at hl 2 rfl) ?_
        refine lv_bipush (v := 8) hx hb dX8_turn_82 (by decide) ?_
        refine lv_idiv hx hb dX8_turn_84 (by decide) ?_
        refine lv_sipush (v := 401) hx hb dX8_turn_85 (by decide) ?_
        refine lv_irem hx hb dX8_turn_88 (by decide) ?_
        refine lv_sipush (v := 200) hx hb dX8_turn_89 (by decide) ?_
        refine lv_isub hx hb dX8_turn_92 ?_
        refine k_goI (k_runS (rest := []) (As := [.ref (b 3), .int (nI ((x / 8 - x / 8 / 6 * 6).toNatClampNeg)), .int ((((x / 8) / 8) - ((x / 8) / 8) / 401 * 401) - 200)]) hx hb hml hown hts hK hP hD hS hA hE hl.1 (c_X8_goodsOn l G kk (b 3) ft ((x / 8 - x / 8 / 6 * 6).toNatClampNeg) ((((x / 8) / 8) - ((x / 8) / 8) / 401 * 401) - 200) (by omega)) sl_X8_193 ⟨Nat.le_of_ble_eq_true rfl, Nat.le_of_ble_eq_true rfl, rfl, rfl⟩ [3] rfl rfl ⟨Nat.zero_le _, Nat.zero_le _⟩ rfl (Nat.le_of_ble_eq_true rfl) dX8_turn_93) hP hD hS hA [3] rfl ads1 (fun H locs hP hD hS => ?_)
        replace hP : va_P G vwCl ([(h, .inr (8, moF b q)), ((b 1), .inl (kk 0, 120, .inl tx)), ((b 2), .inl (kk 0, 64, .inl f)), ((b 3), .inl (kk 0, 64, .inl ((sX8_goodsOn ft ((x / 8 - x / 8 / 6 * 6).toNatClampNeg) ((((x / 8) / 8) - ((x / 8) / 8) / 401 * 401) - 200)).2))), ((b 4), .inl (kk 0, 896, .inl dy)), ((b 5), .inl (kk 0, 128, .inl kp)), ((b 6), .inl (kk 2, 2, .inl ik)), ((b 7), .inl (kk 0, 6, .inl jb))]) H := hP
        replace hD : va_D A ([(h, .inr (8, moF b q)), ((b 1), .inl (kk 0, 120, .inl tx)), ((b 2), .inl (kk 0, 64, .inl f)), ((b 3), .inl (kk 0, 64, .inl ((sX8_goodsOn ft ((x / 8 - x / 8 / 6 * 6).toNatClampNeg) ((((x / 8) / 8) - ((x / 8) / 8) / 401 * 401) - 200)).2))), ((b 4), .inl (kk 0, 896, .inl dy)), ((b 5), .inl (kk 0, 128, .inl kp)), ((b 6), .inl (kk 2, 2, .inl ik)), ((b 7), .inl (kk 0, 6, .inl jb))]) := hD
        have eS : sX8_turn q tx f ft dy kp ik jb x n = sX8_turn_z_2 q tx f ft dy kp ik jb x n (sX8_goodsOn ft ((x / 8 - x / 8 / 6 * 6).toNatClampNeg) ((((x / 8) / 8) - ((x / 8) / 8) / 401 * 401) - 200)) := eS
        have hz_2 := go_0 ft ((x / 8 - x / 8 / 6 * 6).toNatClampNeg) ((((x / 8) / 8) - ((x / 8) / 8) / 401 * 401) - 200)
        generalize sX8_goodsOn ft ((x / 8 - x / 8 / 6 * 6).toNatClampNeg) ((((x / 8) / 8) - ((x / 8) / 8) / 401 * 401) - 200) = z_2 at hP hD eS hz_2 ⊢
        refine lv_pop hx hb dX8_turn_96 rfl ?_
        refine lv_goto (tgt := 158) hx hb dX8_turn_97 (by decide) ?_
        exact fin_v hx hb hr hlocks hK (vP_eq (congrArg (fun z : (Nat → Int32) × (Nat → Int32) × (Nat → Int32) => ([(h, .inr (8, moF b z.1)), ((b 1), .inl (kk 0, 120, .inl tx)), ((b 2), .inl (kk 0, 64, .inl f)), ((b 3), .inl (kk 0, 64, .inl z.2.1)), ((b 4), .inl (kk 0, 896, .inl dy)), ((b 5), .inl (kk 0, 128, .inl kp)), ((b 6), .inl (kk 2, 2, .inl ik)), ((b 7), .inl (kk 0, 6, .inl z.2.2))] : va_W)) eS.symm) hP) (vD_eq (congrArg (fun z : (Nat → Int32) × (Nat → Int32) × (Nat → Int32) => ([(h, .inr (8, moF b z.1)), ((b 1), .inl (kk 0, 120, .inl tx)), ((b 2), .inl (kk 0, 64, .inl f)), ((b 3), .inl (kk 0, 64, .inl z.2.1)), ((b 4), .inl (kk 0, 896, .inl dy)), ((b 5), .inl (kk 0, 128, .inl kp)), ((b 6), .inl (kk 2, 2, .inl ik)), ((b 7), .inl (kk 0, 6, .inl z.2.2))] : va_W)) eS.symm) hD) hS dX8_turn_158
  · have eS := eS.trans (if_neg c_19)
    refine lv_aload_n hx hb dX8_turn_22 rfl (lv_at hl 3 rfl) ?_
    refine r_get (v := .ref (b 3)) hx hb hts hown hK hP fl_X8_16 0 rfl rfl dX8_turn_23 ?_
    refine lv_iload_n hx hb dX8_turn_26 rfl (lv_at hl 1 rfl) ?_
    refine k_goI (k_runS (rest := []) (As := [.ref (b 3), .int ((x / 8) - (x / 8) / 6 * 6)]) hx hb hml hown hts hK hP hD hS hA hE hl.1 (c_X8_isRoom l G kk (b 3) ft ((x / 8) - (x / 8) / 6 * 6) ) sl_X8_158 ⟨Nat.le_of_ble_eq_true rfl, Nat.le_of_ble_eq_true rfl, rfl, rfl⟩ [3] rfl rfl ⟨Nat.zero_le _, Nat.zero_le _⟩ rfl (Nat.le_of_ble_eq_true rfl) dX8_turn_27) hP hD hS hA [3] rfl ads1 (fun H locs hP hD hS => ?_)
    replace hP : va_P G vwCl ([(h, .inr (8, moF b q)), ((b 1), .inl (kk 0, 120, .inl tx)), ((b 2), .inl (kk 0, 64, .inl f)), ((b 3), .inl (kk 0, 64, .inl ft)), ((b 4), .inl (kk 0, 896, .inl dy)), ((b 5), .inl (kk 0, 128, .inl kp)), ((b 6), .inl (kk 2, 2, .inl ik)), ((b 7), .inl (kk 0, 6, .inl jb))]) H := hP
    replace hD : va_D A ([(h, .inr (8, moF b q)), ((b 1), .inl (kk 0, 120, .inl tx)), ((b 2), .inl (kk 0, 64, .inl f)), ((b 3), .inl (kk 0, 64, .inl ft)), ((b 4), .inl (kk 0, 896, .inl dy)), ((b 5), .inl (kk 0, 128, .inl kp)), ((b 6), .inl (kk 2, 2, .inl ik)), ((b 7), .inl (kk 0, 6, .inl jb))]) := hD
    refine lv_if_eq (tgt := 158) hx hb dX8_turn_30 (by decide) (fun c_30 => ?_) (fun c_30 => ?_)
    · have eS := eS.trans (if_pos c_30)
      exact fin_v hx hb hr hlocks hK (vP_eq (congrArg (fun z : (Nat → Int32) × (Nat → Int32) × (Nat → Int32) => ([(h, .inr (8, moF b z.1)), ((b 1), .inl (kk 0, 120, .inl tx)), ((b 2), .inl (kk 0, 64, .inl f)), ((b 3), .inl (kk 0, 64, .inl z.2.1)), ((b 4), .inl (kk 0, 896, .inl dy)), ((b 5), .inl (kk 0, 128, .inl kp)), ((b 6), .inl (kk 2, 2, .inl ik)), ((b 7), .inl (kk 0, 6, .inl z.2.2))] : va_W)) eS.symm) hP) (vD_eq (congrArg (fun z : (Nat → Int32) × (Nat → Int32) × (Nat → Int32) => ([(h, .inr (8, moF b z.1)), ((b 1), .inl (kk 0, 120, .inl tx)), ((b 2), .inl (kk 0, 64, .inl f)), ((b 3), .inl (kk 0, 64, .inl z.2.1)), ((b 4), .inl (kk 0, 896, .inl dy)), ((b 5), .inl (kk 0, 128, .inl kp)), ((b 6), .inl (kk 2, 2, .inl ik)), ((b 7), .inl (kk 0, 6, .inl z.2.2))] : va_W)) eS.symm) hD) hS dX8_turn_158
    · have eS := eS.trans (if_neg c_30)
      obtain ⟨hx1, hx2⟩ := isRoom_in hn h6 c_30
      refine lv_aload_n hx hb dX8_turn_33 rfl (lv_at hl 3 rfl) ?_
      refine r_get (v := .ref (b 3)) hx hb hts hown hK hP fl_X8_16 0 rfl rfl dX8_turn_34 ?_
      refine lv_iload_n hx hb dX8_turn_37 rfl (lv_at hl 1 rfl) ?_
      refine top_eq (y := (nI ((x / 8 - x / 8 / 6 * 6).toNatClampNeg))) (hx1) ?_
      refine lv_iload_n hx hb dX8_turn_38 rfl (lv_at hl 2 rfl) ?_
      refine lv_bipush (v := 8) hx hb dX8_turn_39 (by decide) ?_
      refine lv_idiv hx hb dX8_turn_41 (by decide) ?_
      refine lv_iconst (v := 3) hx hb dX8_turn_42 (by decide) ?_
      refine lv_irem hx hb dX8_turn_43 (by decide) ?_
      have J_5 : ∀ (x_3 : Int32) (ex_3 : x_3 = (if (((x / 8) / 8) - ((x / 8) / 8) / 3 * 3) = 0 then 1 else 0)) (eS : sX8_turn q tx f ft dy kp ik jb x n = sX8_turn_j52 q tx f ft dy kp ik jb x n x_3) (H : Heap) (locs : List Loc) (ls : Array Slot) (hP : va_P G vwCl ([(h, .inr (8, moF b q)), ((b 1), .inl (kk 0, 120, .inl tx)), ((b 2), .inl (kk 0, 64, .inl f)), ((b 3), .inl (kk 0, 64, .inl ft)), ((b 4), .inl (kk 0, 896, .inl dy)), ((b 5), .inl (kk 0, 128, .inl kp)), ((b 6), .inl (kk 2, 2, .inl ik)), ((b 7), .inl (kk 0, 6, .inl jb))]) H) (hD : va_D A ([(h, .inr (8, moF b q)), ((b 1), .inl (kk 0, 120, .inl tx)), ((b 2), .inl (kk 0, 64, .inl f)), ((b 3), .inl (kk 0, 64, .inl ft)), ((b 4), .inl (kk 0, 896, .inl dy)), ((b 5), .inl (kk 0, 128, .inl kp)), ((b 6), .inl (kk 2, 2, .inl ik)), ((b 7), .inl (kk 0, 6, .inl jb))])) (hS : va_S A s.heap H locs) (hl : lv_has ls 5 [(4, .int (x - x / 8 * 8)), (3, .int ((x / 8) - (x / 8) / 6 * 6)), (2, .int (x / 8)), (0, .ref h), (1, .int x)]), GO p l e (rmO 6 136) s m ([.ref h, .int x] : List Value).toArray below meth c A (QV G kk ([(h, .inr (8, moF b ((sX8_turn q tx f ft dy kp ik jb x n).1))), ((b 1), .inl (kk 0, 120, .inl tx)), ((b 2), .inl (kk 0, 64, .inl f)), ((b 3), .inl (kk 0, 64, .inl ((sX8_turn q tx f ft dy kp ik jb x n).2.1))), ((b 4), .inl (kk 0, 896, .inl dy)), ((b 5), .inl (kk 0, 128, .inl kp)), ((b 6), .inl (kk 2, 2, .inl ik)), ((b 7), .inl (kk 0, 6, .inl ((sX8_turn q tx f ft dy kp ik jb x n).2.2)))])) H locs (F0 m 52 ls [.int x_3, .int (nI ((x / 8 - x / 8 / 6 * 6).toNatClampNeg)), .ref (b 3)]) := by
        intro x_3 ex_3 eS H locs ls hP hD hS hl
        refine k_goI (k_runS (rest := []) (As := [.ref (b 3), .int (nI ((x / 8 - x / 8 / 6 * 6).toNatClampNeg)), .int x_3]) hx hb hml hown hts hK hP hD hS hA hE hl.1 (c_X8_doorOn l G kk (b 3) ft n ((x / 8 - x / 8 / 6 * 6).toNatClampNeg) x_3 hn h6 (by omega)) sl_X8_161 ⟨Nat.le_of_ble_eq_true rfl, Nat.le_of_ble_eq_true rfl, rfl, rfl⟩ [3] rfl rfl ⟨Nat.zero_le _, Nat.zero_le _⟩ rfl (Nat.le_of_ble_eq_true rfl) dX8_turn_52) hP hD hS hA [3] rfl ads1 (fun H locs hP hD hS => ?_)
        replace hP : va_P G vwCl ([(h, .inr (8, moF b q)), ((b 1), .inl (kk 0, 120, .inl tx)), ((b 2), .inl (kk 0, 64, .inl f)), ((b 3), .inl (kk 0, 64, .inl ((sX8_doorOn ft n ((x / 8 - x / 8 / 6 * 6).toNatClampNeg) x_3).2))), ((b 4), .inl (kk 0, 896, .inl dy)), ((b 5), .inl (kk 0, 128, .inl kp)), ((b 6), .inl (kk 2, 2, .inl ik)), ((b 7), .inl (kk 0, 6, .inl jb))]) H := hP
        replace hD : va_D A ([(h, .inr (8, moF b q)), ((b 1), .inl (kk 0, 120, .inl tx)), ((b 2), .inl (kk 0, 64, .inl f)), ((b 3), .inl (kk 0, 64, .inl ((sX8_doorOn ft n ((x / 8 - x / 8 / 6 * 6).toNatClampNeg) x_3).2))), ((b 4), .inl (kk 0, 896, .inl dy)), ((b 5), .inl (kk 0, 128, .inl kp)), ((b 6), .inl (kk 2, 2, .inl ik)), ((b 7), .inl (kk 0, 6, .inl jb))]) := hD
        have eS : sX8_turn q tx f ft dy kp ik jb x n = sX8_turn_z_4 q tx f ft dy kp ik jb x n x_3 (sX8_doorOn ft n ((x / 8 - x / 8 / 6 * 6).toNatClampNeg) x_3) := eS
        have hz_4 := do_0 ft n ((x / 8 - x / 8 / 6 * 6).toNatClampNeg) x_3
        generalize sX8_doorOn ft n ((x / 8 - x / 8 / 6 * 6).toNatClampNeg) x_3 = z_4 at hP hD eS hz_4 ⊢
        refine lv_pop hx hb dX8_turn_55 rfl ?_
        refine lv_goto (tgt := 158) hx hb dX8_turn_56 (by decide) ?_
        exact fin_v hx hb hr hlocks hK (vP_eq (congrArg (fun z : (Nat → Int32) × (Nat → Int32) × (Nat → Int32) => ([(h, .inr (8, moF b z.1)), ((b 1), .inl (kk 0, 120, .inl tx)), ((b 2), .inl (kk 0, 64, .inl f)), ((b 3), .inl (kk 0, 64, .inl z.2.1)), ((b 4), .inl (kk 0, 896, .inl dy)), ((b 5), .inl (kk 0, 128, .inl kp)), ((b 6), .inl (kk 2, 2, .inl ik)), ((b 7), .inl (kk 0, 6, .inl z.2.2))] : va_W)) eS.symm) hP) (vD_eq (congrArg (fun z : (Nat → Int32) × (Nat → Int32) × (Nat → Int32) => ([(h, .inr (8, moF b z.1)), ((b 1), .inl (kk 0, 120, .inl tx)), ((b 2), .inl (kk 0, 64, .inl f)), ((b 3), .inl (kk 0, 64, .inl z.2.1)), ((b 4), .inl (kk 0, 896, .inl dy)), ((b 5), .inl (kk 0, 128, .inl kp)), ((b 6), .inl (kk 2, 2, .inl ik)), ((b 7), .inl (kk 0, 6, .inl z.2.2))] : va_W)) eS.symm) hD) hS dX8_turn_158
      refine lv_if_ne (tgt := 51) hx hb dX8_turn_44 (by decide) (fun c_44 => ?_) (fun c_44 => ?_)
      · refine lv_iconst (v := 0) hx hb dX8_turn_51 (by decide) ?_
        exact J_5 0 (if_neg c_44).symm (eS.trans (cg1 (sX8_turn_j52 q tx f ft dy kp ik jb x n) (if_neg c_44))) _ _ ls hP hD hS (lv_sub hl [0, 1, 2, 3, 4] rfl)
      · refine lv_iconst (v := 1) hx hb dX8_turn_47 (by decide) ?_
        refine lv_goto (tgt := 52) hx hb dX8_turn_48 (by decide) ?_
        exact J_5 1 (if_pos c_44).symm (eS.trans (cg1 (sX8_turn_j52 q tx f ft dy kp ik jb x n) (if_pos c_44))) _ _ ls hP hD hS (lv_sub hl [0, 1, 2, 3, 4] rfl)
