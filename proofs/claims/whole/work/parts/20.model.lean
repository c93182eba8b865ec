def sX8_in (v : Int64) (lo : Int64) (hi : Int64) : Int32 :=
  (if (lg_cmp v lo) < 0 then 0 else (if 0 < (lg_cmp v hi) then 0 else 1))
set_option maxRecDepth 100000 in
set_option maxHeartbeats 4000000 in
theorem c_X8_in (l : Launch) (G : va_G) (kk : Nat → ClassId) (v : Int64) (lo : Int64) (hi : Int64)  : CC l yX8_in cX8_in 6 (some .boolean) (rmO 0 0) [.long v, .long lo, .long hi] G kk ([]) (QI G kk ([]) (sX8_in v lo hi)) := by
  refine cc_start (by decide +kernel) (Nat.le_of_ble_eq_true rfl) ?_
  intro p e s m below meth c A ls hx hb hr hml hown hts hlocks hA hE hK hP hD hS hl
  have hown : s.vm.findClass RX8 = some m.cls := hown
  have hl : lv_has ls 6 [(0, .long v), (2, .long lo), (4, .long hi)] := hl
  have eS : sX8_in v lo hi = sX8_in v lo hi := rfl
  refine lv_lload_n hx hb dX8_in_0 rfl (lv_at hl 0 rfl) ?_
  refine lv_lload_n hx hb dX8_in_1 rfl (lv_at hl 1 rfl) ?_
  refine W.lcmp hx hb dX8_in_2 ?_
  refine lv_if_lt (tgt := 17) hx hb dX8_in_3 (by decide) (fun c_3 => ?_) (fun c_3 => ?_)
  · have eS := eS.trans (if_pos c_3)
    refine lv_iconst (v := 0) hx hb dX8_in_17 (by decide) ?_
    exact fin_z hx hb hr hlocks hK hP hD hS eS rfl dX8_in_18
  · have eS := eS.trans (if_neg c_3)
    refine lv_lload_n hx hb dX8_in_6 rfl (lv_at hl 0 rfl) ?_
    refine lv_lload hx hb dX8_in_7 (lv_at hl 2 rfl) ?_
    refine W.lcmp hx hb dX8_in_9 ?_
    refine lv_if_gt (tgt := 17) hx hb dX8_in_10 (by decide) (fun c_10 => ?_) (fun c_10 => ?_)
    · have eS := eS.trans (if_pos c_10)
      refine lv_iconst (v := 0) hx hb dX8_in_17 (by decide) ?_
      exact fin_z hx hb hr hlocks hK hP hD hS eS rfl dX8_in_18
    · have eS := eS.trans (if_neg c_10)
      refine lv_iconst (v := 1) hx hb dX8_in_13 (by decide) ?_
      refine lv_goto (tgt := 18) hx hb dX8_in_14 (by decide) ?_
      exact fin_z hx hb hr hlocks hK hP hD hS eS rfl dX8_in_18
theorem in_zb (v lo hi : Int64) : zb (sX8_in v lo hi) := by
  unfold sX8_in
  exact zb_if zb_0 (zb_if zb_0 zb_1)
theorem fle {x : Int32} {n i : Nat} (e : x = nI n) (h : n ≤ i) (hi : i < 2 ^ 31) : x ≤ nI i := by rw [e]; exact nI_le h hi
theorem fgt {x : Int32} {n i : Nat} (e : x = nI n) (h : i < n) (hn : n < 2 ^ 31) : ¬ x ≤ nI i := by rw [e]; exact nI_ge h hn
def lp_X8_copyState_3 (p0 : Nat) (q0 : Nat) (f : Nat → Int32) (f2 : Nat → Int32) : Nat → Nat → (Nat → Int32) → (Nat → Int32)
  | 0, i, f3 => f3
  | d + 1, i, f3 => (lp_X8_copyState_3 p0 q0 f f2 d (i + 1) (upd f3 (q0 + i) (f (p0 + i))))
def sX8_copyState (p0 : Nat) (q0 : Nat) (f : Nat → Int32) (f2 : Nat → Int32) : (Nat → Int32) :=
  (lp_X8_copyState_3 p0 q0 f f2 64 0 f2)
set_option maxRecDepth 100000 in
set_option maxHeartbeats 4000000 in
theorem c_X8_copyState (l : Launch) (G : va_G) (kk : Nat → ClassId) (fa : Nat) (p0 : Nat) (ta : Nat) (q0 : Nat) (n1 : Nat) (n2 : Nat) (f : Nat → Int32) (f2 : Nat → Int32) (hp : p0 + 64 ≤ n1) (hq : q0 + 64 ≤ n2) (hb1 : n1 < 2 ^ 31) (hb2 : n2 < 2 ^ 31) : CC l yX8_copyState cX8_copyState 5 none (rmO 0 0) [.ref fa, .int (nI p0), .ref ta, .int (nI q0)] G kk ([(fa, .inl (kk 0, n1, .inl f)), (ta, .inl (kk 0, n2, .inl f2))]) (QV G kk ([(fa, .inl (kk 0, n1, .inl f)), (ta, .inl (kk 0, n2, .inl (sX8_copyState p0 q0 f f2)))])) := by
  refine cc_start (by decide +kernel) (Nat.le_of_ble_eq_true rfl) ?_
  intro p e s m below meth c A ls hx hb hr hml hown hts hlocks hA hE hK hP hD hS hl
  have hown : s.vm.findClass RX8 = some m.cls := hown
  have hl : lv_has ls 5 [(0, .ref fa), (1, .int (nI p0)), (2, .ref ta), (3, .int (nI q0))] := hl
  have eS : sX8_copyState p0 q0 f f2 = sX8_copyState p0 q0 f f2 := rfl
  refine lv_iconst (v := 0) hx hb dX8_copyState_0 (by decide) ?_
  refine lv_istore (lv' := [(4, .int 0), (0, .ref fa), (1, .int (nI p0)), (2, .ref ta), (3, .int (nI q0))]) hx hb dX8_copyState_1 hl (by decide) rfl (fun ls hl => ?_)
  have L_1 : ∀ (d : Nat) (i : Nat) (f3 : Nat → Int32) (hd : i + d = 64) (eS : sX8_copyState p0 q0 f f2 = lp_X8_copyState_3 p0 q0 f f2 d i f3) (H : Heap) (locs : List Loc) (ls : Array Slot) (hP : va_P G vwCl ([(fa, .inl (kk 0, n1, .inl f)), (ta, .inl (kk 0, n2, .inl f3))]) H) (hD : va_D A ([(fa, .inl (kk 0, n1, .inl f)), (ta, .inl (kk 0, n2, .inl f3))])) (hS : va_S A s.heap H locs) (hl : lv_has ls 5 [(0, .ref fa), (1, .int (nI p0)), (2, .ref ta), (3, .int (nI q0)), (4, .int (nI i))]), GO p l e (rmO 0 0) s m ([.ref fa, .int (nI p0), .ref ta, .int (nI q0)] : List Value).toArray below meth c A (QV G kk ([(fa, .inl (kk 0, n1, .inl f)), (ta, .inl (kk 0, n2, .inl (sX8_copyState p0 q0 f f2)))])) H locs (F0 m 3 ls []) := by
    intro d
    induction d with
    | zero =>
      intro i f3 hd eS H locs ls hP hD hS hl
      refine lv_iload hx hb dX8_copyState_3 (lv_at hl 4 rfl) ?_
      refine lv_bipush (v := 64) hx hb dX8_copyState_5 (by decide) ?_
      refine lv_icmp_ge (tgt := 28) hx hb dX8_copyState_7 (by decide) (fun c_7 => ?_) (fun c_7 => absurd (nI_le (a := 64) (b := i) (by omega) (by omega)) c_7)
      exact fin_v hx hb hr hlocks hK (vP_eq (congrArg (fun z : (Nat → Int32) => ([(fa, .inl (kk 0, n1, .inl f)), (ta, .inl (kk 0, n2, .inl z))] : va_W)) eS.symm) hP) (vD_eq (congrArg (fun z : (Nat → Int32) => ([(fa, .inl (kk 0, n1, .inl f)), (ta, .inl (kk 0, n2, .inl z))] : va_W)) eS.symm) hD) hS dX8_copyState_28
    | succ d ih =>
      intro i f3 hd eS H locs ls hP hD hS hl
      refine lv_iload hx hb dX8_copyState_3 (lv_at hl 4 rfl) ?_
      refine lv_bipush (v := 64) hx hb dX8_copyState_5 (by decide) ?_
      refine lv_icmp_ge (tgt := 28) hx hb dX8_copyState_7 (by decide) (fun c_7 => absurd c_7 (nI_ge (a := i) (b := 64) (by omega) (by omega))) (fun c_7 => ?_)
      refine lv_aload_n hx hb dX8_copyState_10 rfl (lv_at hl 2 rfl) ?_
      refine lv_iload_n hx hb dX8_copyState_11 rfl (lv_at hl 3 rfl) ?_
      refine lv_iload hx hb dX8_copyState_12 (lv_at hl 4 rfl) ?_
      refine lv_iadd hx hb dX8_copyState_14 ?_
      refine top_eq (nI_add q0 i) ?_
      refine lv_aload_n hx hb dX8_copyState_15 rfl (lv_at hl 0 rfl) ?_
      refine lv_iload_n hx hb dX8_copyState_16 rfl (lv_at hl 1 rfl) ?_
      refine lv_iload hx hb dX8_copyState_17 (lv_at hl 4 rfl) ?_
      refine lv_iadd hx hb dX8_copyState_19 ?_
      refine top_eq (nI_add p0 i) ?_
      refine r_iald hx hb hK hP 0 rfl (p0 + i) rfl (by omega) (by omega) dX8_copyState_20 ?_
      refine r_iast hx hb hK hP hD hS 1 rfl (q0 + i) rfl (by omega) (by omega) dX8_copyState_21 (fun H locs hP hD hS => ?_)
      replace hP : va_P G vwCl ([(fa, .inl (kk 0, n1, .inl f)), (ta, .inl (kk 0, n2, .inl (upd f3 (q0 + i) (f (p0 + i)))))]) H := hP
      replace hD : va_D A ([(fa, .inl (kk 0, n1, .inl f)), (ta, .inl (kk 0, n2, .inl (upd f3 (q0 + i) (f (p0 + i)))))]) := hD
      refine lv_iinc (v := (nI (i + 1))) (lv' := [(4, .int (nI (i + 1))), (0, .ref fa), (1, .int (nI p0)), (2, .ref ta), (3, .int (nI q0))]) hx hb dX8_copyState_22 hl (k := 4) rfl (nI_add i 1) (by decide) rfl (fun ls hl => ?_)
      refine lv_goto (tgt := 3) hx hb dX8_copyState_25 (by decide) ?_
      exact ih (i + 1) (upd f3 (q0 + i) (f (p0 + i))) (by omega) eS _ _ ls hP hD hS (lv_sub hl [1, 2, 3, 4, 0] rfl)
  exact L_1 64 0 f2 (Nat.zero_add _) eS _ _ ls hP hD hS (lv_sub hl [1, 2, 3, 4, 0] rfl)
def lp_X8_clear_2 (f : Nat → Int32) : Nat → Nat → (Nat → Int32) → (Nat → Int32)
  | 0, i, f1 => (upd (upd (upd (upd (upd f1 10 600) 12 10) 13 12) 14 30) 15 6)
  | d + 1, i, f1 => (lp_X8_clear_2 f d (i + 1) (upd f1 i 0))
def sX8_clear (f : Nat → Int32) : (Nat → Int32) :=
  (lp_X8_clear_2 f 64 0 f)
set_option maxRecDepth 100000 in
set_option maxHeartbeats 4000000 in
theorem c_X8_clear (l : Launch) (G : va_G) (kk : Nat → ClassId) (ra : Nat) (f : Nat → Int32)  : CC l yX8_clear cX8_clear 2 none (rmO 0 0) [.ref ra] G kk ([(ra, .inl (kk 0, 64, .inl f))]) (QV G kk ([(ra, .inl (kk 0, 64, .inl (sX8_clear f)))])) := by
  refine cc_start (by decide +kernel) (Nat.le_of_ble_eq_true rfl) ?_
  intro p e s m below meth c A ls hx hb hr hml hown hts hlocks hA hE hK hP hD hS hl
  have hown : s.vm.findClass RX8 = some m.cls := hown
  have hl : lv_has ls 2 [(0, .ref ra)] := hl
  have eS : sX8_clear f = sX8_clear f := rfl
  refine lv_iconst (v := 0) hx hb dX8_clear_0 (by decide) ?_
  refine lv_istore_n (lv' := [(1, .int 0), (0, .ref ra)]) hx hb dX8_clear_1 rfl hl (by decide) rfl (fun ls hl => ?_)
  have L_1 : ∀ (d : Nat) (i : Nat) (f1 : Nat → Int32) (hd : i + d = 64) (eS : sX8_clear f = lp_X8_clear_2 f d i f1) (H : Heap) (locs : List Loc) (ls : Array Slot) (hP : va_P G vwCl ([(ra, .inl (kk 0, 64, .inl f1))]) H) (hD : va_D A ([(ra, .inl (kk 0, 64, .inl f1))])) (hS : va_S A s.heap H locs) (hl : lv_has ls 2 [(0, .ref ra), (1, .int (nI i))]), GO p l e (rmO 0 0) s m ([.ref ra] : List Value).toArray below meth c A (QV G kk ([(ra, .inl (kk 0, 64, .inl (sX8_clear f)))])) H locs (F0 m 2 ls []) := by
    intro d
    induction d with
    | zero =>
      intro i f1 hd eS H locs ls hP hD hS hl
      refine lv_iload_n hx hb dX8_clear_2 rfl (lv_at hl 1 rfl) ?_
      refine lv_bipush (v := 64) hx hb dX8_clear_3 (by decide) ?_
      refine lv_icmp_ge (tgt := 18) hx hb dX8_clear_5 (by decide) (fun c_5 => ?_) (fun c_5 => absurd (nI_le (a := 64) (b := i) (by omega) (by omega)) c_5)
      refine lv_aload_n hx hb dX8_clear_18 rfl (lv_at hl 0 rfl) ?_
      refine lv_bipush (v := 10) hx hb dX8_clear_19 (by decide) ?_
      refine lv_sipush (v := 600) hx hb dX8_clear_21 (by decide) ?_
      refine r_iast hx hb hK hP hD hS 0 rfl 10 rfl (by decide) (by decide) dX8_clear_24 (fun H locs hP hD hS => ?_)
      replace hP : va_P G vwCl ([(ra, .inl (kk 0, 64, .inl (upd f1 10 600)))]) H := hP
      replace hD : va_D A ([(ra, .inl (kk 0, 64, .inl (upd f1 10 600)))]) := hD
      refine lv_aload_n hx hb dX8_clear_25 rfl (lv_at hl 0 rfl) ?_
      refine lv_bipush (v := 12) hx hb dX8_clear_26 (by decide) ?_
      refine lv_bipush (v := 10) hx hb dX8_clear_28 (by decide) ?_
      refine r_iast hx hb hK hP hD hS 0 rfl 12 rfl (by decide) (by decide) dX8_clear_30 (fun H locs hP hD hS => ?_)
      replace hP : va_P G vwCl ([(ra, .inl (kk 0, 64, .inl (upd (upd f1 10 600) 12 10)))]) H := hP
      replace hD : va_D A ([(ra, .inl (kk 0, 64, .inl (upd (upd f1 10 600) 12 10)))]) := hD
      refine lv_aload_n hx hb dX8_clear_31 rfl (lv_at hl 0 rfl) ?_
      refine lv_bipush (v := 13) hx hb dX8_clear_32 (by decide) ?_
      refine lv_bipush (v := 12) hx hb dX8_clear_34 (by decide) ?_
      refine r_iast hx hb hK hP hD hS 0 rfl 13 rfl (by decide) (by decide) dX8_clear_36 (fun H locs hP hD hS => ?_)
      replace hP : va_P G vwCl ([(ra, .inl (kk 0, 64, .inl (upd (upd (upd f1 10 600) 12 10) 13 12)))]) H := hP
      replace hD : va_D A ([(ra, .inl (kk 0, 64, .inl (upd (upd (upd f1 10 600) 12 10) 13 12)))]) := hD
      refine lv_aload_n hx hb dX8_clear_37 rfl (lv_at hl 0 rfl) ?_
      refine lv_bipush (v := 14) hx hb dX8_clear_38 (by decide) ?_
      refine lv_bipush (v := 30) hx hb dX8_clear_40 (by decide) ?_
      refine r_iast hx hb hK hP hD hS 0 rfl 14 rfl (by decide) (by decide) dX8_clear_42 (fun H locs hP hD hS => ?_)
      replace hP : va_P G vwCl ([(ra, .inl (kk 0, 64, .inl (upd (upd (upd (upd f1 10 600) 12 10) 13 12) 14 30)))]) H := hP
      replace hD : va_D A ([(ra, .inl (kk 0, 64, .inl (upd (upd (upd (upd f1 10 600) 12 10) 13 12) 14 30)))]) := hD
      refine lv_aload_n hx hb dX8_clear_43 rfl (lv_at hl 0 rfl) ?_
      refine lv_bipush (v := 15) hx hb dX8_clear_44 (by decide) ?_
      refine lv_bipush (v := 6) hx hb dX8_clear_46 (by decide) ?_
      refine r_iast hx hb hK hP hD hS 0 rfl 15 rfl (by decide) (by decide) dX8_clear_48 (fun H locs hP hD hS => ?_)
      replace hP : va_P G vwCl ([(ra, .inl (kk 0, 64, .inl (upd (upd (upd (upd (upd f1 10 600) 12 10) 13 12) 14 30) 15 6)))]) H := hP
      replace hD : va_D A ([(ra, .inl (kk 0, 64, .inl (upd (upd (upd (upd (upd f1 10 600) 12 10) 13 12) 14 30) 15 6)))]) := hD
      exact fin_v hx hb hr hlocks hK (vP_eq (congrArg (fun z : (Nat → Int32) => ([(ra, .inl (kk 0, 64, .inl z))] : va_W)) eS.symm) hP) (vD_eq (congrArg (fun z : (Nat → Int32) => ([(ra, .inl (kk 0, 64, .inl z))] : va_W)) eS.symm) hD) hS dX8_clear_49
    | succ d ih =>
      intro i f1 hd eS H locs ls hP hD hS hl
      refine lv_iload_n hx hb dX8_clear_2 rfl (lv_at hl 1 rfl) ?_
      refine lv_bipush (v := 64) hx hb dX8_clear_3 (by decide) ?_
      refine lv_icmp_ge (tgt := 18) hx hb dX8_clear_5 (by decide) (fun c_5 => absurd c_5 (nI_ge (a := i) (b := 64) (by omega) (by omega))) (fun c_5 => ?_)
      refine lv_aload_n hx hb dX8_clear_8 rfl (lv_at hl 0 rfl) ?_
      refine lv_iload_n hx hb dX8_clear_9 rfl (lv_at hl 1 rfl) ?_
      refine lv_iconst (v := 0) hx hb dX8_clear_10 (by decide) ?_
      refine r_iast hx hb hK hP hD hS 0 rfl i rfl (by omega) (by decide) dX8_clear_11 (fun H locs hP hD hS => ?_)
      replace hP : va_P G vwCl ([(ra, .inl (kk 0, 64, .inl (upd f1 i 0)))]) H := hP
      replace hD : va_D A ([(ra, .inl (kk 0, 64, .inl (upd f1 i 0)))]) := hD
      refine lv_iinc (v := (nI (i + 1))) (lv' := [(1, .int (nI (i + 1))), (0, .ref ra)]) hx hb dX8_clear_12 hl (k := 1) rfl (nI_add i 1) (by decide) rfl (fun ls hl => ?_)
      refine lv_goto (tgt := 2) hx hb dX8_clear_15 (by decide) ?_
      exact ih (i + 1) (upd f1 i 0) (by omega) eS _ _ ls hP hD hS (lv_sub hl [1, 0] rfl)
  exact L_1 64 0 f (Nat.zero_add _) eS _ _ ls hP hD hS (lv_sub hl [1, 0] rfl)
def sX8_isRoom (f : Nat → Int32) (i : Int32) : Int32 :=
  (sX8_in (i.toInt64) 0 (((f 0) - 1).toInt64))
set_option maxRecDepth 100000 in
set_option maxHeartbeats 4000000 in
theorem c_X8_isRoom (l : Launch) (G : va_G) (kk : Nat → ClassId) (ra : Nat) (f : Nat → Int32) (i : Int32)  : CC l yX8_isRoom cX8_isRoom 2 (some .boolean) (rmO 1 25) [.ref ra, .int i] G kk ([(ra, .inl (kk 0, 64, .inl f))]) (QI G kk ([(ra, .inl (kk 0, 64, .inl f))]) (sX8_isRoom f i)) := by
  refine cc_start (by decide +kernel) (Nat.le_of_ble_eq_true rfl) ?_
  intro p e s m below meth c A ls hx hb hr hml hown hts hlocks hA hE hK hP hD hS hl
  have hown : s.vm.findClass RX8 = some m.cls := hown
  have hl : lv_has ls 2 [(0, .ref ra), (1, .int i)] := hl
  have eS : sX8_isRoom f i = sX8_isRoom f i := rfl
  refine lv_iload_n hx hb dX8_isRoom_0 rfl (lv_at hl 1 rfl) ?_
  refine lv_i2l (v := (i.toInt64)) hx hb dX8_isRoom_1 (by first | rfl | decide) ?_
  refine lv_lconst (v := 0) hx hb dX8_isRoom_2 rfl ?_
  refine lv_aload_n hx hb dX8_isRoom_3 rfl (lv_at hl 0 rfl) ?_
  refine lv_iconst (v := 0) hx hb dX8_isRoom_4 (by decide) ?_
  refine r_iald hx hb hK hP 0 rfl 0 rfl (by decide) (by decide) dX8_isRoom_5 ?_
  refine lv_iconst (v := 1) hx hb dX8_isRoom_6 (by decide) ?_
  refine lv_isub hx hb dX8_isRoom_7 ?_
  refine lv_i2l (v := (((f 0) - 1).toInt64)) hx hb dX8_isRoom_8 (by first | rfl | decide) ?_
  refine k_goI (k_runS (rest := []) (As := [.long (i.toInt64), .long 0, .long (((f 0) - 1).toInt64)]) hx hb hml hown hts hK hP hD hS hA hE hl.1 (c_X8_in l G kk (i.toInt64) 0 (((f 0) - 1).toInt64) ) sl_X8_40 ⟨Nat.le_of_ble_eq_true rfl, Nat.le_of_ble_eq_true rfl, rfl, rfl⟩ [] rfl rfl ⟨Nat.zero_le _, Nat.zero_le _⟩ rfl (Nat.le_of_ble_eq_true rfl) dX8_isRoom_9) hP hD hS hA [] rfl ads0 (fun H locs hP hD hS => ?_)
  replace hP : va_P G vwCl ([(ra, .inl (kk 0, 64, .inl f))]) H := hP
  replace hD : va_D A ([(ra, .inl (kk 0, 64, .inl f))]) := hD
  exact fin_z hx hb hr hlocks hK hP hD hS eS (zb_n (in_zb _ _ _)) dX8_isRoom_12
def sX8_of (f : Nat → Int32) (i : Nat) (w : Nat) : Int32 :=
  (f ((16 + (8 * i)) + w))
set_option maxRecDepth 100000 in
set_option maxHeartbeats 4000000 in
theorem c_X8_of (l : Launch) (G : va_G) (kk : Nat → ClassId) (ra : Nat) (f : Nat → Int32) (i : Nat) (w : Nat) (hi : 16 + 8 * i + w < 64) : CC l yX8_of cX8_of 3 (some .int) (rmO 0 0) [.ref ra, .int (nI i), .int (nI w)] G kk ([(ra, .inl (kk 0, 64, .inl f))]) (QI G kk ([(ra, .inl (kk 0, 64, .inl f))]) (sX8_of f i w)) := by
  refine cc_start (by decide +kernel) (Nat.le_of_ble_eq_true rfl) ?_
  intro p e s m below meth c A ls hx hb hr hml hown hts hlocks hA hE hK hP hD hS hl
  have hown : s.vm.findClass RX8 = some m.cls := hown
  have hl : lv_has ls 3 [(0, .ref ra), (1, .int (nI i)), (2, .int (nI w))] := hl
  have eS : sX8_of f i w = sX8_of f i w := rfl
  refine lv_aload_n hx hb dX8_of_0 rfl (lv_at hl 0 rfl) ?_
  refine lv_bipush (v := 16) hx hb dX8_of_1 (by decide) ?_
  refine lv_bipush (v := 8) hx hb dX8_of_3 (by decide) ?_
  refine lv_iload_n hx hb dX8_of_5 rfl (lv_at hl 1 rfl) ?_
  refine lv_imul hx hb dX8_of_6 ?_
  refine top_eq (pk_mul 8 i) ?_
  refine lv_iadd hx hb dX8_of_7 ?_
  refine top_eq (nI_add 16 (8 * i)) ?_
  refine lv_iload_n hx hb dX8_of_8 rfl (lv_at hl 2 rfl) ?_
  refine lv_iadd hx hb dX8_of_9 ?_
  refine top_eq (nI_add (16 + (8 * i)) w) ?_
  refine r_iald hx hb hK hP 0 rfl ((16 + (8 * i)) + w) rfl (by omega) (by decide) dX8_of_10 ?_
  exact fin_i hx hb hr hlocks hK hP hD hS eS dX8_of_11
def sX8_lay (f : Nat → Int32) (i : Nat) (w : Nat) (v : Int32) : (Nat → Int32) :=
  (upd f ((16 + (8 * i)) + w) v)
set_option maxRecDepth 100000 in
set_option maxHeartbeats 4000000 in
theorem c_X8_lay (l : Launch) (G : va_G) (kk : Nat → ClassId) (ra : Nat) (f : Nat → Int32) (i : Nat) (w : Nat) (v : Int32) (hi : 16 + 8 * i + w < 64) : CC l yX8_lay cX8_lay 4 none (rmO 0 0) [.ref ra, .int (nI i), .int (nI w), .int v] G kk ([(ra, .inl (kk 0, 64, .inl f))]) (QV G kk ([(ra, .inl (kk 0, 64, .inl (sX8_lay f i w v)))])) := by
  refine cc_start (by decide +kernel) (Nat.le_of_ble_eq_true rfl) ?_
  intro p e s m below meth c A ls hx hb hr hml hown hts hlocks hA hE hK hP hD hS hl
  have hown : s.vm.findClass RX8 = some m.cls := hown
  have hl : lv_has ls 4 [(0, .ref ra), (1, .int (nI i)), (2, .int (nI w)), (3, .int v)] := hl
  have eS : sX8_lay f i w v = sX8_lay f i w v := rfl
  refine lv_aload_n hx hb dX8_lay_0 rfl (lv_at hl 0 rfl) ?_
  refine lv_bipush (v := 16) hx hb dX8_lay_1 (by decide) ?_
  refine lv_bipush (v := 8) hx hb dX8_lay_3 (by decide) ?_
  refine lv_iload_n hx hb dX8_lay_5 rfl (lv_at hl 1 rfl) ?_
  refine lv_imul hx hb dX8_lay_6 ?_
  refine top_eq (pk_mul 8 i) ?_
  refine lv_iadd hx hb dX8_lay_7 ?_
  refine top_eq (nI_add 16 (8 * i)) ?_
  refine lv_iload_n hx hb dX8_lay_8 rfl (lv_at hl 2 rfl) ?_
  refine lv_iadd hx hb dX8_lay_9 ?_
  refine top_eq (nI_add (16 + (8 * i)) w) ?_
  refine lv_iload_n hx hb dX8_lay_10 rfl (lv_at hl 3 rfl) ?_
  refine r_iast hx hb hK hP hD hS 0 rfl ((16 + (8 * i)) + w) rfl (by omega) (by decide) dX8_lay_11 (fun H locs hP hD hS => ?_)
  replace hP : va_P G vwCl ([(ra, .inl (kk 0, 64, .inl (upd f ((16 + (8 * i)) + w) v)))]) H := hP
  replace hD : va_D A ([(ra, .inl (kk 0, 64, .inl (upd f ((16 + (8 * i)) + w) v)))]) := hD
  exact fin_v hx hb hr hlocks hK (vP_eq (congrArg (fun z : (Nat → Int32) => ([(ra, .inl (kk 0, 64, .inl z))] : va_W)) eS.symm) hP) (vD_eq (congrArg (fun z : (Nat → Int32) => ([(ra, .inl (kk 0, 64, .inl z))] : va_W)) eS.symm) hD) hS dX8_lay_12
def sX8_isWarm (f : Nat → Int32) (i : Nat) : Int32 :=
  (if (sX8_of f i 3) < (sX8_of f i 2) then 0 else 1)
set_option maxRecDepth 100000 in
set_option maxHeartbeats 4000000 in
theorem c_X8_isWarm (l : Launch) (G : va_G) (kk : Nat → ClassId) (ra : Nat) (f : Nat → Int32) (i : Nat) (hi : i < 6) : CC l yX8_isWarm cX8_isWarm 2 (some .boolean) (rmO 1 22) [.ref ra, .int (nI i)] G kk ([(ra, .inl (kk 0, 64, .inl f))]) (QI G kk ([(ra, .inl (kk 0, 64, .inl f))]) (sX8_isWarm f i)) := by
  refine cc_start (by decide +kernel) (Nat.le_of_ble_eq_true rfl) ?_
  intro p e s m below meth c A ls hx hb hr hml hown hts hlocks hA hE hK hP hD hS hl
  have hown : s.vm.findClass RX8 = some m.cls := hown
  have hl : lv_has ls 2 [(0, .ref ra), (1, .int (nI i))] := hl
  have eS : sX8_isWarm f i = sX8_isWarm f i := rfl
  refine lv_aload_n hx hb dX8_isWarm_0 rfl (lv_at hl 0 rfl) ?_
  refine lv_iload_n hx hb dX8_isWarm_1 rfl (lv_at hl 1 rfl) ?_
  refine lv_iconst (v := 3) hx hb dX8_isWarm_2 (by decide) ?_
  refine k_goI (k_runS (rest := []) (As := [.ref ra, .int (nI i), .int 3]) hx hb hml hown hts hK hP hD hS hA hE hl.1 (c_X8_of l G kk ra f i 3 (by omega)) sl_X8_44 ⟨Nat.le_of_ble_eq_true rfl, Nat.le_of_ble_eq_true rfl, rfl, rfl⟩ [0] rfl rfl ⟨Nat.zero_le _, Nat.zero_le _⟩ rfl (Nat.le_of_ble_eq_true rfl) dX8_isWarm_3) hP hD hS hA [0] rfl ads1 (fun H locs hP hD hS => ?_)
  replace hP : va_P G vwCl ([(ra, .inl (kk 0, 64, .inl f))]) H := hP
  replace hD : va_D A ([(ra, .inl (kk 0, 64, .inl f))]) := hD
  refine lv_aload_n hx hb dX8_isWarm_6 rfl (lv_at hl 0 rfl) ?_
  refine lv_iload_n hx hb dX8_isWarm_7 rfl (lv_at hl 1 rfl) ?_
  refine lv_iconst (v := 2) hx hb dX8_isWarm_8 (by decide) ?_
  refine k_goI (k_runS (rest := [.int (sX8_of f i 3)]) (As := [.ref ra, .int (nI i), .int 2]) hx hb hml hown hts hK hP hD hS hA hE hl.1 (c_X8_of l G kk ra f i 2 (by omega)) sl_X8_44 ⟨Nat.le_of_ble_eq_true rfl, Nat.le_of_ble_eq_true rfl, rfl, rfl⟩ [0] rfl rfl ⟨Nat.zero_le _, Nat.zero_le _⟩ rfl (Nat.le_of_ble_eq_true rfl) dX8_isWarm_9) hP hD hS hA [0] rfl ads1 (fun H locs hP hD hS => ?_)
  replace hP : va_P G vwCl ([(ra, .inl (kk 0, 64, .inl f))]) H := hP
  replace hD : va_D A ([(ra, .inl (kk 0, 64, .inl f))]) := hD
  refine lv_icmp_lt (tgt := 19) hx hb dX8_isWarm_12 (by decide) (fun c_12 => ?_) (fun c_12 => ?_)
  · have eS := eS.trans (if_pos c_12)
    refine lv_iconst (v := 0) hx hb dX8_isWarm_19 (by decide) ?_
    exact fin_z hx hb hr hlocks hK hP hD hS eS rfl dX8_isWarm_20
  · have eS := eS.trans (if_neg c_12)
    refine lv_iconst (v := 1) hx hb dX8_isWarm_15 (by decide) ?_
    refine lv_goto (tgt := 20) hx hb dX8_isWarm_16 (by decide) ?_
    exact fin_z hx hb hr hlocks hK hP hD hS eS rfl dX8_isWarm_20
def sX8_over (f : Nat → Int32) (i : Nat) : Int32 :=
  ((sX8_of f i 3) - (sX8_of f i 1))
set_option maxRecDepth 100000 in
set_option maxHeartbeats 4000000 in
theorem c_X8_over (l : Launch) (G : va_G) (kk : Nat → ClassId) (ra : Nat) (f : Nat → Int32) (i : Nat) (hi : i < 6) : CC l yX8_over cX8_over 2 (some .int) (rmO 1 22) [.ref ra, .int (nI i)] G kk ([(ra, .inl (kk 0, 64, .inl f))]) (QI G kk ([(ra, .inl (kk 0, 64, .inl f))]) (sX8_over f i)) := by
  refine cc_start (by decide +kernel) (Nat.le_of_ble_eq_true rfl) ?_
  intro p e s m below meth c A ls hx hb hr hml hown hts hlocks hA hE hK hP hD hS hl
  have hown : s.vm.findClass RX8 = some m.cls := hown
  have hl : lv_has ls 2 [(0, .ref ra), (1, .int (nI i))] := hl
  have eS : sX8_over f i = sX8_over f i := rfl
  refine lv_aload_n hx hb dX8_over_0 rfl (lv_at hl 0 rfl) ?_
  refine lv_iload_n hx hb dX8_over_1 rfl (lv_at hl 1 rfl) ?_
  refine lv_iconst (v := 3) hx hb dX8_over_2 (by decide) ?_
  refine k_goI (k_runS (rest := []) (As := [.ref ra, .int (nI i), .int 3]) hx hb hml hown hts hK hP hD hS hA hE hl.1 (c_X8_of l G kk ra f i 3 (by omega)) sl_X8_44 ⟨Nat.le_of_ble_eq_true rfl, Nat.le_of_ble_eq_true rfl, rfl, rfl⟩ [0] rfl rfl ⟨Nat.zero_le _, Nat.zero_le _⟩ rfl (Nat.le_of_ble_eq_true rfl) dX8_over_3) hP hD hS hA [0] rfl ads1 (fun H locs hP hD hS => ?_)
  replace hP : va_P G vwCl ([(ra, .inl (kk 0, 64, .inl f))]) H := hP
  replace hD : va_D A ([(ra, .inl (kk 0, 64, .inl f))]) := hD
  refine lv_aload_n hx hb dX8_over_6 rfl (lv_at hl 0 rfl) ?_
  refine lv_iload_n hx hb dX8_over_7 rfl (lv_at hl 1 rfl) ?_
  refine lv_iconst (v := 1) hx hb dX8_over_8 (by decide) ?_
  refine k_goI (k_runS (rest := [.int (sX8_of f i 3)]) (As := [.ref ra, .int (nI i), .int 1]) hx hb hml hown hts hK hP hD hS hA hE hl.1 (c_X8_of l G kk ra f i 1 (by omega)) sl_X8_44 ⟨Nat.le_of_ble_eq_true rfl, Nat.le_of_ble_eq_true rfl, rfl, rfl⟩ [0] rfl rfl ⟨Nat.zero_le _, Nat.zero_le _⟩ rfl (Nat.le_of_ble_eq_true rfl) dX8_over_9) hP hD hS hA [0] rfl ads1 (fun H locs hP hD hS => ?_)
  replace hP : va_P G vwCl ([(ra, .inl (kk 0, 64, .inl f))]) H := hP
  replace hD : va_D A ([(ra, .inl (kk 0, 64, .inl f))]) := hD
  refine lv_isub hx hb dX8_over_12 ?_
  exact fin_i hx hb hr hlocks hK hP hD hS eS dX8_over_13
def sX8_minutesLeft (f : Nat → Int32) : Int32 :=
  (15 - (((f 1) + (f 11)) - ((f 1) + (f 11)) / 15 * 15))
set_option maxRecDepth 100000 in
set_option maxHeartbeats 4000000 in
theorem c_X8_minutesLeft (l : Launch) (G : va_G) (kk : Nat → ClassId) (ra : Nat) (f : Nat → Int32)  : CC l yX8_minutesLeft cX8_minutesLeft 1 (some .int) (rmO 0 0) [.ref ra] G kk ([(ra, .inl (kk 0, 64, .inl f))]) (QI G kk ([(ra, .inl (kk 0, 64, .inl f))]) (sX8_minutesLeft f)) := by
  refine cc_start (by decide +kernel) (Nat.le_of_ble_eq_true rfl) ?_
  intro p e s m below meth c A ls hx hb hr hml hown hts hlocks hA hE hK hP hD hS hl
  have hown : s.vm.findClass RX8 = some m.cls := hown
  have hl : lv_has ls 1 [(0, .ref ra)] := hl
  have eS : sX8_minutesLeft f = sX8_minutesLeft f := rfl
  refine lv_bipush (v := 15) hx hb dX8_minutesLeft_0 (by decide) ?_
  refine lv_aload_n hx hb dX8_minutesLeft_2 rfl (lv_at hl 0 rfl) ?_
  refine lv_iconst (v := 1) hx hb dX8_minutesLeft_3 (by decide) ?_
  refine r_iald hx hb hK hP 0 rfl 1 rfl (by decide) (by decide) dX8_minutesLeft_4 ?_
  refine lv_aload_n hx hb dX8_minutesLeft_5 rfl (lv_at hl 0 rfl) ?_
  refine lv_bipush (v := 11) hx hb dX8_minutesLeft_6 (by decide) ?_
  refine r_iald hx hb hK hP 0 rfl 11 rfl (by decide) (by decide) dX8_minutesLeft_8 ?_
  refine lv_iadd hx hb dX8_minutesLeft_9 ?_
  refine lv_bipush (v := 15) hx hb dX8_minutesLeft_10 (by decide) ?_
  refine lv_irem hx hb dX8_minutesLeft_12 (by decide) ?_
  refine lv_isub hx hb dX8_minutesLeft_13 ?_
  exact fin_i hx hb hr hlocks hK hP hD hS eS dX8_minutesLeft_14
def sX8_fits (q : Nat → Int32) (f : Nat → Int32) (k : Int32) : Int32 :=
  (if (f 10) < ((f 2) + (((k + (q 10)) + (f 12)) * (sX8_minutesLeft f))) then 0 else 1)
set_option maxRecDepth 100000 in
set_option maxHeartbeats 4000000 in
theorem c_X8_fits (l : Launch) (G : va_G) (kk : Nat → ClassId) (h : Nat) (b : Nat → Nat) (q : Nat → Int32) (ra : Nat) (f : Nat → Int32) (k : Int32)  : CC l yX8_fits cX8_fits 3 (some .boolean) (rmO 1 20) [.ref h, .ref ra, .int k] G kk ([(h, .inr (8, moF b q)), (ra, .inl (kk 0, 64, .inl f))]) (QI G kk ([(h, .inr (8, moF b q)), (ra, .inl (kk 0, 64, .inl f))]) (sX8_fits q f k)) := by
  refine cc_start (by decide +kernel) (Nat.le_of_ble_eq_true rfl) ?_
  intro p e s m below meth c A ls hx hb hr hml hown hts hlocks hA hE hK hP hD hS hl
  have hown : s.vm.findClass RX8 = some m.cls := hown
  have hl : lv_has ls 3 [(0, .ref h), (1, .ref ra), (2, .int k)] := hl
  have eS : sX8_fits q f k = sX8_fits q f k := rfl
  refine lv_aload_n hx hb dX8_fits_0 rfl (lv_at hl 1 rfl) ?_
  refine lv_iconst (v := 2) hx hb dX8_fits_1 (by decide) ?_
  refine r_iald hx hb hK hP 1 rfl 2 rfl (by decide) (by decide) dX8_fits_2 ?_
  refine lv_iload_n hx hb dX8_fits_3 rfl (lv_at hl 2 rfl) ?_
  refine lv_aload_n hx hb dX8_fits_4 rfl (lv_at hl 0 rfl) ?_
  refine r_get (v := .int (q 10)) hx hb hts hown hK hP fl_X8_48 0 rfl rfl dX8_fits_5 ?_
  refine lv_iadd hx hb dX8_fits_8 ?_
  refine lv_aload_n hx hb dX8_fits_9 rfl (lv_at hl 1 rfl) ?_
  refine lv_bipush (v := 12) hx hb dX8_fits_10 (by decide) ?_
  refine r_iald hx hb hK hP 1 rfl 12 rfl (by decide) (by decide) dX8_fits_12 ?_
  refine lv_iadd hx hb dX8_fits_13 ?_
  refine lv_aload_n hx hb dX8_fits_14 rfl (lv_at hl 1 rfl) ?_
  refine k_goI (k_runS (rest := [.int ((k + (q 10)) + (f 12)), .int (f 2)]) (As := [.ref ra]) hx hb hml hown hts hK hP hD hS hA hE hl.1 (c_X8_minutesLeft l G kk ra f ) sl_X8_51 ⟨Nat.le_of_ble_eq_true rfl, Nat.le_of_ble_eq_true rfl, rfl, rfl⟩ [1] rfl rfl ⟨Nat.zero_le _, Nat.zero_le _⟩ rfl (Nat.le_of_ble_eq_true rfl) dX8_fits_15) hP hD hS hA [1] rfl ads1 (fun H locs hP hD hS => ?_)
  replace hP : va_P G vwCl ([(h, .inr (8, moF b q)), (ra, .inl (kk 0, 64, .inl f))]) H := hP
  replace hD : va_D A ([(h, .inr (8, moF b q)), (ra, .inl (kk 0, 64, .inl f))]) := hD
  refine lv_imul hx hb dX8_fits_18 ?_
  refine lv_iadd hx hb dX8_fits_19 ?_
  refine lv_aload_n hx hb dX8_fits_20 rfl (lv_at hl 1 rfl) ?_
  refine lv_bipush (v := 10) hx hb dX8_fits_21 (by decide) ?_
  refine r_iald hx hb hK hP 1 rfl 10 rfl (by decide) (by decide) dX8_fits_23 ?_
  refine lv_icmp_gt (tgt := 31) hx hb dX8_fits_24 (by decide) (fun c_24 => ?_) (fun c_24 => ?_)
  · have eS := eS.trans (if_pos c_24)
    refine lv_iconst (v := 0) hx hb dX8_fits_31 (by decide) ?_
    exact fin_z hx hb hr hlocks hK hP hD hS eS rfl dX8_fits_32
  · have eS := eS.trans (if_neg c_24)
    refine lv_iconst (v := 1) hx hb dX8_fits_27 (by decide) ?_
    refine lv_goto (tgt := 32) hx hb dX8_fits_28 (by decide) ?_
    exact fin_z hx hb hr hlocks hK hP hD hS eS rfl dX8_fits_32
def sX8_measure_j87 (f : Nat → Int32) (k : Int32) (x_1 : Int32) (x_2 : Int32) (x_3 : Int32) : (Nat → Int32) :=
  (upd (upd (upd (upd (upd (upd f 2 ((f 2) + (k + (f 12)))) 5 ((f 5) + (k + (f 12)))) 1 ((f 1) + 1)) 3 ((f 3) + x_2)) 4 x_3) 2 0)
def sX8_measure_j65 (f : Nat → Int32) (k : Int32) (x_1 : Int32) (x_2 : Int32) : (Nat → Int32) :=
  (sX8_measure_j87 f k x_1 x_2 (if ((f 2) + (k + (f 12))) ≤ (f 4) then (f 4) else ((f 2) + (k + (f 12)))))
def sX8_measure_j20 (f : Nat → Int32) (k : Int32) (x_1 : Int32) : (Nat → Int32) :=
  (if x_1 = 0 then (upd (upd (upd f 2 ((f 2) + (k + (f 12)))) 5 ((f 5) + (k + (f 12)))) 1 ((f 1) + 1)) else (sX8_measure_j65 f k x_1 (if ((f 2) + (k + (f 12))) ≤ (f 10) then 0 else 1)))
def sX8_measure (f : Nat → Int32) (k : Int32) : (Nat → Int32) :=
  (sX8_measure_j20 f k (if (sX8_minutesLeft f) = 1 then 1 else 0))
set_option maxRecDepth 100000 in
set_option maxHeartbeats 4000000 in
theorem c_X8_measure (l : Launch) (G : va_G) (kk : Nat → ClassId) (ra : Nat) (f : Nat → Int32) (k : Int32)  : CC l yX8_measure cX8_measure 4 none (rmO 1 20) [.ref ra, .int k] G kk ([(ra, .inl (kk 0, 64, .inl f))]) (QV G kk ([(ra, .inl (kk 0, 64, .inl (sX8_measure f k)))])) := by
  refine cc_start (by decide +kernel) (Nat.le_of_ble_eq_true rfl) ?_
  intro p e s m below meth c A ls hx hb hr hml hown hts hlocks hA hE hK hP hD hS hl
  have hown : s.vm.findClass RX8 = some m.cls := hown
  have hl : lv_has ls 4 [(0, .ref ra), (1, .int k)] := hl
  have eS : sX8_measure f k = sX8_measure f k := rfl
  refine lv_iload_n hx hb dX8_measure_0 rfl (lv_at hl 1 rfl) ?_
  refine lv_aload_n hx hb dX8_measure_1 rfl (lv_at hl 0 rfl) ?_
  refine lv_bipush (v := 12) hx hb dX8_measure_2 (by decide) ?_
  refine r_iald hx hb hK hP 0 rfl 12 rfl (by decide) (by decide) dX8_measure_4 ?_
  refine lv_iadd hx hb dX8_measure_5 ?_
  refine lv_istore_n (lv' := [(2, .int (k + (f 12))), (0, .ref ra), (1, .int k)]) hx hb dX8_measure_6 rfl hl (by decide) rfl (fun ls hl => ?_)
  refine lv_aload_n hx hb dX8_measure_7 rfl (lv_at hl 1 rfl) ?_
  refine k_goI (k_runS (rest := []) (As := [.ref ra]) hx hb hml hown hts hK hP hD hS hA hE hl.1 (c_X8_minutesLeft l G kk ra f ) sl_X8_51 ⟨Nat.le_of_ble_eq_true rfl, Nat.le_of_ble_eq_true rfl, rfl, rfl⟩ [0] rfl rfl ⟨Nat.zero_le _, Nat.zero_le _⟩ rfl (Nat.le_of_ble_eq_true rfl) dX8_measure_8) hP hD hS hA [0] rfl ads1 (fun H locs hP hD hS => ?_)
  replace hP : va_P G vwCl ([(ra, .inl (kk 0, 64, .inl f))]) H := hP
  replace hD : va_D A ([(ra, .inl (kk 0, 64, .inl f))]) := hD
  refine lv_iconst (v := 1) hx hb dX8_measure_11 (by decide) ?_
  have J_4 : ∀ (x_1 : Int32) (ex_1 : x_1 = (if (sX8_minutesLeft f) = 1 then 1 else 0)) (eS : sX8_measure f k = sX8_measure_j20 f k x_1) (H : Heap) (locs : List Loc) (ls : Array Slot) (hP : va_P G vwCl ([(ra, .inl (kk 0, 64, .inl f))]) H) (hD : va_D A ([(ra, .inl (kk 0, 64, .inl f))])) (hS : va_S A s.heap H locs) (hl : lv_has ls 4 [(2, .int (k + (f 12))), (0, .ref ra), (1, .int k)]), GO p l e (rmO 1 20) s m ([.ref ra, .int k] : List Value).toArray below meth c A (QV G kk ([(ra, .inl (kk 0, 64, .inl (sX8_measure f k)))])) H locs (F0 m 20 ls [.int x_1]) := by
    intro x_1 ex_1 eS H locs ls hP hD hS hl
    refine lv_istore_n (lv' := [(3, .int x_1), (2, .int (k + (f 12))), (0, .ref ra), (1, .int k)]) hx hb dX8_measure_20 rfl hl (by decide) rfl (fun ls hl => ?_)
    refine lv_aload_n hx hb dX8_measure_21 rfl (lv_at hl 2 rfl) ?_
    refine lv_iconst (v := 2) hx hb dX8_measure_22 (by decide) ?_
    refine lv_dup2_11 hx hb dX8_measure_23 rfl rfl ?_
    refine r_iald hx hb hK hP 0 rfl 2 rfl (by decide) (by decide) dX8_measure_24 ?_
    refine lv_iload_n hx hb dX8_measure_25 rfl (lv_at hl 1 rfl) ?_
    refine lv_iadd hx hb dX8_measure_26 ?_
    refine r_iast hx hb hK hP hD hS 0 rfl 2 rfl (by decide) (by decide) dX8_measure_27 (fun H locs hP hD hS => ?_)
    replace hP : va_P G vwCl ([(ra, .inl (kk 0, 64, .inl (upd f 2 ((f 2) + (k + (f 12))))))]) H := hP
    replace hD : va_D A ([(ra, .inl (kk 0, 64, .inl (upd f 2 ((f 2) + (k + (f 12))))))]) := hD
    refine lv_aload_n hx hb dX8_measure_28 rfl (lv_at hl 2 rfl) ?_
    refine lv_iconst (v := 5) hx hb dX8_measure_29 (by decide) ?_
    refine lv_dup2_11 hx hb dX8_measure_30 rfl rfl ?_
    refine r_iald hx hb hK hP 0 rfl 5 rfl (by decide) (by decide) dX8_measure_31 ?_
    refine top_eq (y := (f 5)) (pk_un (by decide)) ?_
    refine lv_iload_n hx hb dX8_measure_32 rfl (lv_at hl 1 rfl) ?_
    refine lv_iadd hx hb dX8_measure_33 ?_
    refine r_iast hx hb hK hP hD hS 0 rfl 5 rfl (by decide) (by decide) dX8_measure_34 (fun H locs hP hD hS => ?_)
    replace hP : va_P G vwCl ([(ra, .inl (kk 0, 64, .inl (upd (upd f 2 ((f 2) + (k + (f 12)))) 5 ((f 5) + (k + (f 12))))))]) H := hP
    replace hD : va_D A ([(ra, .inl (kk 0, 64, .inl (upd (upd f 2 ((f 2) + (k + (f 12)))) 5 ((f 5) + (k + (f 12))))))]) := hD
    refine lv_aload_n hx hb dX8_measure_35 rfl (lv_at hl 2 rfl) ?_
    refine lv_iconst (v := 1) hx hb dX8_measure_36 (by decide) ?_
    refine lv_dup2_11 hx hb dX8_measure_37 rfl rfl ?_
    refine r_iald hx hb hK hP 0 rfl 1 rfl (by decide) (by decide) dX8_measure_38 ?_
    refine top_eq (y := (f 1)) ((pk_un (by decide)).trans (pk_un (by decide))) ?_
    refine lv_iconst (v := 1) hx hb dX8_measure_39 (by decide) ?_
    refine lv_iadd hx hb dX8_measure_40 ?_
    refine r_iast hx hb hK hP hD hS 0 rfl 1 rfl (by decide) (by decide) dX8_measure_41 (fun H locs hP hD hS => ?_)
    replace hP : va_P G vwCl ([(ra, .inl (kk 0, 64, .inl (upd (upd (upd f 2 ((f 2) + (k + (f 12)))) 5 ((f 5) + (k + (f 12)))) 1 ((f 1) + 1))))]) H := hP
    replace hD : va_D A ([(ra, .inl (kk 0, 64, .inl (upd (upd (upd f 2 ((f 2) + (k + (f 12)))) 5 ((f 5) + (k + (f 12)))) 1 ((f 1) + 1))))]) := hD
    refine lv_iload_n hx hb dX8_measure_42 rfl (lv_at hl 0 rfl) ?_
    refine lv_if_eq (tgt := 92) hx hb dX8_measure_43 (by decide) (fun c_43 => ?_) (fun c_43 => ?_)
    · have eS := eS.trans (if_pos c_43)
      exact fin_v hx hb hr hlocks hK (vP_eq (congrArg (fun z : (Nat → Int32) => ([(ra, .inl (kk 0, 64, .inl z))] : va_W)) eS.symm) hP) (vD_eq (congrArg (fun z : (Nat → Int32) => ([(ra, .inl (kk 0, 64, .inl z))] : va_W)) eS.symm) hD) hS dX8_measure_92
    · have eS := eS.trans (if_neg c_43)
      refine lv_aload_n hx hb dX8_measure_46 rfl (lv_at hl 2 rfl) ?_
      refine lv_iconst (v := 3) hx hb dX8_measure_47 (by decide) ?_
      refine lv_dup2_11 hx hb dX8_measure_48 rfl rfl ?_
      refine r_iald hx hb hK hP 0 rfl 3 rfl (by decide) (by decide) dX8_measure_49 ?_
      refine top_eq (y := (f 3)) ((pk_un (by decide)).trans ((pk_un (by decide)).trans (pk_un (by decide)))) ?_
      refine lv_aload_n hx hb dX8_measure_50 rfl (lv_at hl 2 rfl) ?_
      refine lv_iconst (v := 2) hx hb dX8_measure_51 (by decide) ?_
      refine r_iald hx hb hK hP 0 rfl 2 rfl (by decide) (by decide) dX8_measure_52 ?_
      refine top_eq (y := ((f 2) + (k + (f 12)))) ((pk_un (by decide)).trans ((pk_un (by decide)).trans (pk_us))) ?_
      refine lv_aload_n hx hb dX8_measure_53 rfl (lv_at hl 2 rfl) ?_
      refine lv_bipush (v := 10) hx hb dX8_measure_54 (by decide) ?_
      refine r_iald hx hb hK hP 0 rfl 10 rfl (by decide) (by decide) dX8_measure_56 ?_
      refine top_eq (y := (f 10)) ((pk_un (by decide)).trans ((pk_un (by decide)).trans (pk_un (by decide)))) ?_
      have J_5 : ∀ (x_2 : Int32) (ex_2 : x_2 = (if ((f 2) + (k + (f 12))) ≤ (f 10) then 0 else 1)) (eS : sX8_measure f k = sX8_measure_j65 f k x_1 x_2) (H : Heap) (locs : List Loc) (ls : Array Slot) (hP : va_P G vwCl ([(ra, .inl (kk 0, 64, .inl (upd (upd (upd f 2 ((f 2) + (k + (f 12)))) 5 ((f 5) + (k + (f 12)))) 1 ((f 1) + 1))))]) H) (hD : va_D A ([(ra, .inl (kk 0, 64, .inl (upd (upd (upd f 2 ((f 2) + (k + (f 12)))) 5 ((f 5) + (k + (f 12)))) 1 ((f 1) + 1))))])) (hS : va_S A s.heap H locs) (hl : lv_has ls 4 [(3, .int x_1), (2, .int (k + (f 12))), (0, .ref ra), (1, .int k)]), GO p l e (rmO 1 20) s m ([.ref ra, .int k] : List Value).toArray below meth c A (QV G kk ([(ra, .inl (kk 0, 64, .inl (sX8_measure f k)))])) H locs (F0 m 65 ls [.int x_2, .int (f 3), .int 3, .ref ra]) := by
        intro x_2 ex_2 eS H locs ls hP hD hS hl
        refine lv_iadd hx hb dX8_measure_65 ?_
        refine r_iast hx hb hK hP hD hS 0 rfl 3 rfl (by decide) (by decide) dX8_measure_66 (fun H locs hP hD hS => ?_)
        replace hP : va_P G vwCl ([(ra, .inl (kk 0, 64, .inl (upd (upd (upd (upd f 2 ((f 2) + (k + (f 12)))) 5 ((f 5) + (k + (f 12)))) 1 ((f 1) + 1)) 3 ((f 3) + x_2))))]) H := hP
        replace hD : va_D A ([(ra, .inl (kk 0, 64, .inl (upd (upd (upd (upd f 2 ((f 2) + (k + (f 12)))) 5 ((f 5) + (k + (f 12)))) 1 ((f 1) + 1)) 3 ((f 3) + x_2))))]) := hD
        refine lv_aload_n hx hb dX8_measure_67 rfl (lv_at hl 2 rfl) ?_
        refine lv_iconst (v := 4) hx hb dX8_measure_68 (by decide) ?_
        refine lv_aload_n hx hb dX8_measure_69 rfl (lv_at hl 2 rfl) ?_
        refine lv_iconst (v := 2) hx hb dX8_measure_70 (by decide) ?_
        refine r_iald hx hb hK hP 0 rfl 2 rfl (by decide) (by decide) dX8_measure_71 ?_
        refine top_eq (y := ((f 2) + (k + (f 12)))) ((pk_un (by decide)).trans ((pk_un (by decide)).trans ((pk_un (by decide)).trans (pk_us)))) ?_
        refine lv_aload_n hx hb dX8_measure_72 rfl (lv_at hl 2 rfl) ?_
        refine lv_iconst (v := 4) hx hb dX8_measure_73 (by decide) ?_
        refine r_iald hx hb hK hP 0 rfl 4 rfl (by decide) (by decide) dX8_measure_74 ?_
        refine top_eq (y := (f 4)) ((pk_un (by decide)).trans ((pk_un (by decide)).trans ((pk_un (by decide)).trans (pk_un (by decide))))) ?_
        have J_6 : ∀ (x_3 : Int32) (ex_3 : x_3 = (if ((f 2) + (k + (f 12))) ≤ (f 4) then (f 4) else ((f 2) + (k + (f 12))))) (eS : sX8_measure f k = sX8_measure_j87 f k x_1 x_2 x_3) (H : Heap) (locs : List Loc) (ls : Array Slot) (hP : va_P G vwCl ([(ra, .inl (kk 0, 64, .inl (upd (upd (upd (upd f 2 ((f 2) + (k + (f 12)))) 5 ((f 5) + (k + (f 12)))) 1 ((f 1) + 1)) 3 ((f 3) + x_2))))]) H) (hD : va_D A ([(ra, .inl (kk 0, 64, .inl (upd (upd (upd (upd f 2 ((f 2) + (k + (f 12)))) 5 ((f 5) + (k + (f 12)))) 1 ((f 1) + 1)) 3 ((f 3) + x_2))))])) (hS : va_S A s.heap H locs) (hl : lv_has ls 4 [(3, .int x_1), (2, .int (k + (f 12))), (0, .ref ra), (1, .int k)]), GO p l e (rmO 1 20) s m ([.ref ra, .int k] : List Value).toArray below meth c A (QV G kk ([(ra, .inl (kk 0, 64, .inl (sX8_measure f k)))])) H locs (F0 m 87 ls [.int x_3, .int 4, .ref ra]) := by
          intro x_3 ex_3 eS H locs ls hP hD hS hl
          refine r_iast hx hb hK hP hD hS 0 rfl 4 rfl (by decide) (by decide) dX8_measure_87 (fun H locs hP hD hS => ?_)
          replace hP : va_P G vwCl ([(ra, .inl (kk 0, 64, .inl (upd (upd (upd (upd (upd f 2 ((f 2) + (k + (f 12)))) 5 ((f 5) + (k + (f 12)))) 1 ((f 1) + 1)) 3 ((f 3) + x_2)) 4 x_3)))]) H := hP
          replace hD : va_D A ([(ra, .inl (kk 0, 64, .inl (upd (upd (upd (upd (upd f 2 ((f 2) + (k + (f 12)))) 5 ((f 5) + (k + (f 12)))) 1 ((f 1) + 1)) 3 ((f 3) + x_2)) 4 x_3)))]) := hD
          refine lv_aload_n hx hb dX8_measure_88 rfl (lv_at hl 2 rfl) ?_
          refine lv_iconst (v := 2) hx hb dX8_measure_89 (by decide) ?_
          refine lv_iconst (v := 0) hx hb dX8_measure_90 (by decide) ?_
          refine r_iast hx hb hK hP hD hS 0 rfl 2 rfl (by decide) (by decide) dX8_measure_91 (fun H locs hP hD hS => ?_)
          replace hP : va_P G vwCl ([(ra, .inl (kk 0, 64, .inl (upd (upd (upd (upd (upd (upd f 2 ((f 2) + (k + (f 12)))) 5 ((f 5) + (k + (f 12)))) 1 ((f 1) + 1)) 3 ((f 3) + x_2)) 4 x_3) 2 0)))]) H := hP
          replace hD : va_D A ([(ra, .inl (kk 0, 64, .inl (upd (upd (upd (upd (upd (upd f 2 ((f 2) + (k + (f 12)))) 5 ((f 5) + (k + (f 12)))) 1 ((f 1) + 1)) 3 ((f 3) + x_2)) 4 x_3) 2 0)))]) := hD
          exact fin_v hx hb hr hlocks hK (vP_eq (congrArg (fun z : (Nat → Int32) => ([(ra, .inl (kk 0, 64, .inl z))] : va_W)) eS.symm) hP) (vD_eq (congrArg (fun z : (Nat → Int32) => ([(ra, .inl (kk 0, 64, .inl z))] : va_W)) eS.symm) hD) hS dX8_measure_92
        refine lv_icmp_le (tgt := 84) hx hb dX8_measure_75 (by decide) (fun c_75 => ?_) (fun c_75 => ?_)
        · refine lv_aload_n hx hb dX8_measure_84 rfl (lv_at hl 2 rfl) ?_
          refine lv_iconst (v := 4) hx hb dX8_measure_85 (by decide) ?_
          refine r_iald hx hb hK hP 0 rfl 4 rfl (by decide) (by decide) dX8_measure_86 ?_
          refine top_eq (y := (f 4)) ((pk_un (by decide)).trans ((pk_un (by decide)).trans ((pk_un (by decide)).trans (pk_un (by decide))))) ?_
          exact J_6 (f 4) (if_pos c_75).symm (eS.trans (cg1 (sX8_measure_j87 f k x_1 x_2) (if_pos c_75))) _ _ ls hP hD hS (lv_sub hl [0, 1, 2, 3] rfl)
        · refine lv_aload_n hx hb dX8_measure_78 rfl (lv_at hl 2 rfl) ?_
          refine lv_iconst (v := 2) hx hb dX8_measure_79 (by decide) ?_
          refine r_iald hx hb hK hP 0 rfl 2 rfl (by decide) (by decide) dX8_measure_80 ?_
          refine top_eq (y := ((f 2) + (k + (f 12)))) ((pk_un (by decide)).trans ((pk_un (by decide)).trans ((pk_un (by decide)).trans (pk_us)))) ?_
          refine lv_goto (tgt := 87) hx hb dX8_measure_81 (by decide) ?_
          exact J_6 ((f 2) + (k + (f 12))) (if_neg c_75).symm (eS.trans (cg1 (sX8_measure_j87 f k x_1 x_2) (if_neg c_75))) _ _ ls hP hD hS (lv_sub hl [0, 1, 2, 3] rfl)
      refine lv_icmp_le (tgt := 64) hx hb dX8_measure_57 (by decide) (fun c_57 => ?_) (fun c_57 => ?_)
      · refine lv_iconst (v := 0) hx hb dX8_measure_64 (by decide) ?_
        exact J_5 0 (if_pos c_57).symm (eS.trans (cg1 (sX8_measure_j65 f k x_1) (if_pos c_57))) _ _ ls hP hD hS (lv_sub hl [0, 1, 2, 3] rfl)
      · refine lv_iconst (v := 1) hx hb dX8_measure_60 (by decide) ?_
        refine lv_goto (tgt := 65) hx hb dX8_measure_61 (by decide) ?_
        exact J_5 1 (if_neg c_57).symm (eS.trans (cg1 (sX8_measure_j65 f k x_1) (if_neg c_57))) _ _ ls hP hD hS (lv_sub hl [0, 1, 2, 3] rfl)
  refine lv_icmp_ne (tgt := 19) hx hb dX8_measure_12 (by decide) (fun c_12 => ?_) (fun c_12 => ?_)
  · refine lv_iconst (v := 0) hx hb dX8_measure_19 (by decide) ?_
    exact J_4 0 (if_neg c_12).symm (eS.trans (cg1 (sX8_measure_j20 f k) (if_neg c_12))) _ _ ls hP hD hS (lv_sub hl [0, 1, 2] rfl)
  · refine lv_iconst (v := 1) hx hb dX8_measure_15 (by decide) ?_
    refine lv_goto (tgt := 20) hx hb dX8_measure_16 (by decide) ?_
    exact J_4 1 (if_pos c_12).symm (eS.trans (cg1 (sX8_measure_j20 f k) (if_pos c_12))) _ _ ls hP hD hS (lv_sub hl [0, 1, 2] rfl)
def sX8_clamp (v : Int32) (lo : Int32) (hi : Int32) : Int32 :=
  (if lo ≤ v then (if v ≤ hi then v else hi) else lo)
set_option maxRecDepth 100000 in
set_option maxHeartbeats 4000000 in
theorem c_X8_clamp (l : Launch) (G : va_G) (kk : Nat → ClassId) (v : Int32) (lo : Int32) (hi : Int32)  : CC l yX8_clamp cX8_clamp 3 (some .int) (rmO 0 0) [.int v, .int lo, .int hi] G kk ([]) (QI G kk ([]) (sX8_clamp v lo hi)) := by
  refine cc_start (by decide +kernel) (Nat.le_of_ble_eq_true rfl) ?_
  intro p e s m below meth c A ls hx hb hr hml hown hts hlocks hA hE hK hP hD hS hl
  have hown : s.vm.findClass RX8 = some m.cls := hown
  have hl : lv_has ls 3 [(0, .int v), (1, .int lo), (2, .int hi)] := hl
  have eS : sX8_clamp v lo hi = sX8_clamp v lo hi := rfl
  refine lv_iload_n hx hb dX8_clamp_0 rfl (lv_at hl 0 rfl) ?_
  refine lv_iload_n hx hb dX8_clamp_1 rfl (lv_at hl 1 rfl) ?_
  refine lv_icmp_ge (tgt := 9) hx hb dX8_clamp_2 (by decide) (fun c_2 => ?_) (fun c_2 => ?_)
  · have eS := eS.trans (if_pos c_2)
    refine lv_iload_n hx hb dX8_clamp_9 rfl (lv_at hl 0 rfl) ?_
    refine lv_iload_n hx hb dX8_clamp_10 rfl (lv_at hl 2 rfl) ?_
    refine lv_icmp_le (tgt := 18) hx hb dX8_clamp_11 (by decide) (fun c_11 => ?_) (fun c_11 => ?_)
    · have eS := eS.trans (if_pos c_11)
      refine lv_iload_n hx hb dX8_clamp_18 rfl (lv_at hl 0 rfl) ?_
      exact fin_i hx hb hr hlocks hK hP hD hS eS dX8_clamp_19
    · have eS := eS.trans (if_neg c_11)
      refine lv_iload_n hx hb dX8_clamp_14 rfl (lv_at hl 2 rfl) ?_
      refine lv_goto (tgt := 19) hx hb dX8_clamp_15 (by decide) ?_
      exact fin_i hx hb hr hlocks hK hP hD hS eS dX8_clamp_19
  · have eS := eS.trans (if_neg c_2)
    refine lv_iload_n hx hb dX8_clamp_5 rfl (lv_at hl 1 rfl) ?_
    refine lv_goto (tgt := 19) hx hb dX8_clamp_6 (by decide) ?_
    exact fin_i hx hb hr hlocks hK hP hD hS eS dX8_clamp_19
def lp_X8_must_2 (q : Nat → Int32) (jb : Nat → Int32) (f : Nat → Int32) (n : Nat) : Nat → Nat → (Nat → Int32) → (Nat → Int32) → (Nat → Int32) × (Nat → Int32)
  | 0, i, q1, jb1 => (q1, jb1)
  | d + 1, i, q1, jb1 => ((fun (x_1 : Int32) => ((fun (x_2 : Int32) => ((fun (x_3 : Int32) => (lp_X8_must_2 q jb f n d (i + 1) (upd q1 10 ((q1 10) + x_3)) (upd jb1 i x_2))) (if ((upd jb1 i x_2) i) = 8 then 0 else (if ((upd jb1 i x_2) i) = 1 then (sX8_of f i 0) else (f 13))))) (if x_1 = 0 then (if (sX8_isWarm f i) = 0 then (if (sX8_of f i 5) = 100 then 2 else 8) else 1) else 0))) (if (sX8_of f i 6) ≤ 0 then 0 else 1))
def sX8_must (q : Nat → Int32) (jb : Nat → Int32) (f : Nat → Int32) (n : Nat) : (Nat → Int32) × (Nat → Int32) :=
  (lp_X8_must_2 q jb f n n 0 q jb)
set_option maxRecDepth 100000 in
set_option maxHeartbeats 4000000 in
theorem c_X8_must (l : Launch) (G : va_G) (kk : Nat → ClassId) (h : Nat) (b : Nat → Nat) (q : Nat → Int32) (jb : Nat → Int32) (ra : Nat) (f : Nat → Int32) (n : Nat) (hn : f 0 = nI n) (h6 : n ≤ 6) : CC l yX8_must cX8_must 4 none (rmO 2 43) [.ref h, .ref ra] G kk ([(h, .inr (8, moF b q)), ((b 7), .inl (kk 0, 6, .inl jb)), (ra, .inl (kk 0, 64, .inl f))]) (QV G kk ([(h, .inr (8, moF b ((sX8_must q jb f n).1))), ((b 7), .inl (kk 0, 6, .inl ((sX8_must q jb f n).2))), (ra, .inl (kk 0, 64, .inl f))])) := by
  refine cc_start (by decide +kernel) (Nat.le_of_ble_eq_true rfl) ?_
  intro p e s m below meth c A ls hx hb hr hml hown hts hlocks hA hE hK hP hD hS hl
  have hown : s.vm.findClass RX8 = some m.cls := hown
  have hl : lv_has ls 4 [(0, .ref h), (1, .ref ra)] := hl
  have eS : sX8_must q jb f n = sX8_must q jb f n := rfl
  refine lv_iconst (v := 0) hx hb dX8_must_0 (by decide) ?_
  refine lv_istore_n (lv' := [(2, .int 0), (0, .ref h), (1, .ref ra)]) hx hb dX8_must_1 rfl hl (by decide) rfl (fun ls hl => ?_)
  have L_4 : ∀ (d : Nat) (i : Nat) (q1 : Nat → Int32) (jb1 : Nat → Int32) (hd : i + d = n) (eS : sX8_must q jb f n = lp_X8_must_2 q jb f n d i q1 jb1) (H : Heap) (locs : List Loc) (ls : Array Slot) (hP : va_P G vwCl ([(h, .inr (8, moF b q1)), ((b 7), .inl (kk 0, 6, .inl jb1)), (ra, .inl (kk 0, 64, .inl f))]) H) (hD : va_D A ([(h, .inr (8, moF b q1)), ((b 7), .inl (kk 0, 6, .inl jb1)), (ra, .inl (kk 0, 64, .inl f))])) (hS : va_S A s.heap H locs) (hl : lv_has ls 4 [(0, .ref h), (1, .ref ra), (2, .int (nI i))]), GO p l e (rmO 2 43) s m ([.ref h, .ref ra] : List Value).toArray below meth c A (QV G kk ([(h, .inr (8, moF b ((sX8_must q jb f n).1))), ((b 7), .inl (kk 0, 6, .inl ((sX8_must q jb f n).2))), (ra, .inl (kk 0, 64, .inl f))])) H locs (F0 m 2 ls []) := by
    intro d
    induction d with
    | zero =>
      intro i q1 jb1 hd eS H locs ls hP hD hS hl
      refine lv_iload_n hx hb dX8_must_2 rfl (lv_at hl 2 rfl) ?_
      refine lv_aload_n hx hb dX8_must_3 rfl (lv_at hl 1 rfl) ?_
      refine lv_iconst (v := 0) hx hb dX8_must_4 (by decide) ?_
      refine r_iald hx hb hK hP 2 rfl 0 rfl (by decide) (by decide) dX8_must_5 ?_
      refine lv_icmp_ge (tgt := 121) hx hb dX8_must_6 (by decide) (fun c_6 => ?_) (fun c_6 => absurd (fle hn (by omega) (by omega)) c_6)
      exact fin_v hx hb hr hlocks hK (vP_eq (congrArg (fun z : (Nat → Int32) × (Nat → Int32) => ([(h, .inr (8, moF b z.1)), ((b 7), .inl (kk 0, 6, .inl z.2)), (ra, .inl (kk 0, 64, .inl f))] : va_W)) eS.symm) hP) (vD_eq (congrArg (fun z : (Nat → Int32) × (Nat → Int32) => ([(h, .inr (8, moF b z.1)), ((b 7), .inl (kk 0, 6, .inl z.2)), (ra, .inl (kk 0, 64, .inl f))] : va_W)) eS.symm) hD) hS dX8_must_121
    | succ d ih =>
      intro i q1 jb1 hd eS H locs ls hP hD hS hl
      refine lv_iload_n hx hb dX8_must_2 rfl (lv_at hl 2 rfl) ?_
      refine lv_aload_n hx hb dX8_must_3 rfl (lv_at hl 1 rfl) ?_
      refine lv_iconst (v := 0) hx hb dX8_must_4 (by decide) ?_
      refine r_iald hx hb hK hP 2 rfl 0 rfl (by decide) (by decide) dX8_must_5 ?_
      refine lv_icmp_ge (tgt := 121) hx hb dX8_must_6 (by decide) (fun c_6 => absurd c_6 (fgt hn (by omega) (by omega))) (fun c_6 => ?_)
      refine lv_aload_n hx hb dX8_must_9 rfl (lv_at hl 1 rfl) ?_
      refine lv_iload_n hx hb dX8_must_10 rfl (lv_at hl 2 rfl) ?_
      refine lv_bipush (v := 6) hx hb dX8_must_11 (by decide) ?_
      refine k_goI (k_runS (rest := []) (As := [.ref ra, .int (nI i), .int 6]) hx hb hml hown hts hK hP hD hS hA hE hl.1 (c_X8_of l G kk ra f i 6 (by omega)) sl_X8_44 ⟨Nat.le_of_ble_eq_true rfl, Nat.le_of_ble_eq_true rfl, rfl, rfl⟩ [2] rfl rfl ⟨Nat.zero_le _, Nat.zero_le _⟩ rfl (Nat.le_of_ble_eq_true rfl) dX8_must_13) hP hD hS hA [2] rfl ads1 (fun H locs hP hD hS => ?_)
      replace hP : va_P G vwCl ([(h, .inr (8, moF b q1)), ((b 7), .inl (kk 0, 6, .inl jb1)), (ra, .inl (kk 0, 64, .inl f))]) H := hP
      replace hD : va_D A ([(h, .inr (8, moF b q1)), ((b 7), .inl (kk 0, 6, .inl jb1)), (ra, .inl (kk 0, 64, .inl f))]) := hD
      have J_5 : ∀ (x_1 : Int32) (ex_1 : x_1 = (if (sX8_of f i 6) ≤ 0 then 0 else 1)) (eS : sX8_must q jb f n = (fun (x_1 : Int32) => ((fun (x_2 : Int32) => ((fun (x_3 : Int32) => (lp_X8_must_2 q jb f n d (i + 1) (upd q1 10 ((q1 10) + x_3)) (upd jb1 i x_2))) (if ((upd jb1 i x_2) i) = 8 then 0 else (if ((upd jb1 i x_2) i) = 1 then (sX8_of f i 0) else (f 13))))) (if x_1 = 0 then (if (sX8_isWarm f i) = 0 then (if (sX8_of f i 5) = 100 then 2 else 8) else 1) else 0))) x_1) (H : Heap) (locs : List Loc) (ls : Array Slot) (hP : va_P G vwCl ([(h, .inr (8, moF b q1)), ((b 7), .inl (kk 0, 6, .inl jb1)), (ra, .inl (kk 0, 64, .inl f))]) H) (hD : va_D A ([(h, .inr (8, moF b q1)), ((b 7), .inl (kk 0, 6, .inl jb1)), (ra, .inl (kk 0, 64, .inl f))])) (hS : va_S A s.heap H locs) (hl : lv_has ls 4 [(0, .ref h), (1, .ref ra), (2, .int (nI i))]), GO p l e (rmO 2 43) s m ([.ref h, .ref ra] : List Value).toArray below meth c A (QV G kk ([(h, .inr (8, moF b ((sX8_must q jb f n).1))), ((b 7), .inl (kk 0, 6, .inl ((sX8_must q jb f n).2))), (ra, .inl (kk 0, 64, .inl f))])) H locs (F0 m 24 ls [.int x_1]) := by
        intro x_1 ex_1 eS H locs ls hP hD hS hl
        refine lv_istore_n (lv' := [(3, .int x_1), (0, .ref h), (1, .ref ra), (2, .int (nI i))]) hx hb dX8_must_24 rfl hl (by decide) rfl (fun ls hl => ?_)
        refine lv_aload_n hx hb dX8_must_25 rfl (lv_at hl 1 rfl) ?_
        refine r_get (v := .ref (b 7)) hx hb hts hown hK hP fl_X8_29 0 rfl rfl dX8_must_26 ?_
        refine lv_iload_n hx hb dX8_must_29 rfl (lv_at hl 3 rfl) ?_
        refine lv_iload_n hx hb dX8_must_30 rfl (lv_at hl 0 rfl) ?_
        have J_6 : ∀ (x_2 : Int32) (ex_2 : x_2 = (if x_1 = 0 then (if (sX8_isWarm f i) = 0 then (if (sX8_of f i 5) = 100 then 2 else 8) else 1) else 0)) (eS : sX8_must q jb f n = (fun (x_2 : Int32) => ((fun (x_3 : Int32) => (lp_X8_must_2 q jb f n d (i + 1) (upd q1 10 ((q1 10) + x_3)) (upd jb1 i x_2))) (if ((upd jb1 i x_2) i) = 8 then 0 else (if ((upd jb1 i x_2) i) = 1 then (sX8_of f i 0) else (f 13))))) x_2) (H : Heap) (locs : List Loc) (ls : Array Slot) (hP : va_P G vwCl ([(h, .inr (8, moF b q1)), ((b 7), .inl (kk 0, 6, .inl jb1)), (ra, .inl (kk 0, 64, .inl f))]) H) (hD : va_D A ([(h, .inr (8, moF b q1)), ((b 7), .inl (kk 0, 6, .inl jb1)), (ra, .inl (kk 0, 64, .inl f))])) (hS : va_S A s.heap H locs) (hl : lv_has ls 4 [(3, .int x_1), (0, .ref h), (1, .ref ra), (2, .int (nI i))]), GO p l e (rmO 2 43) s m ([.ref h, .ref ra] : List Value).toArray below meth c A (QV G kk ([(h, .inr (8, moF b ((sX8_must q jb f n).1))), ((b 7), .inl (kk 0, 6, .inl ((sX8_must q jb f n).2))), (ra, .inl (kk 0, 64, .inl f))])) H locs (F0 m 67 ls [.int x_2, .int (nI i), .ref (b 7)]) := by
          intro x_2 ex_2 eS H locs ls hP hD hS hl
          refine r_iast hx hb hK hP hD hS 1 rfl i rfl (by omega) (by decide) dX8_must_67 (fun H locs hP hD hS => ?_)
          replace hP : va_P G vwCl ([(h, .inr (8, moF b q1)), ((b 7), .inl (kk 0, 6, .inl (upd jb1 i x_2))), (ra, .inl (kk 0, 64, .inl f))]) H := hP
          replace hD : va_D A ([(h, .inr (8, moF b q1)), ((b 7), .inl (kk 0, 6, .inl (upd jb1 i x_2))), (ra, .inl (kk 0, 64, .inl f))]) := hD
          refine lv_aload_n hx hb dX8_must_68 rfl (lv_at hl 1 rfl) ?_
          refine lv_dup hx hb dX8_must_69 rfl ?_
          refine r_get (v := .int (q1 10)) hx hb hts hown hK hP fl_X8_48 0 rfl rfl dX8_must_70 ?_
          refine lv_aload_n hx hb dX8_must_73 rfl (lv_at hl 1 rfl) ?_
          refine r_get (v := .ref (b 7)) hx hb hts hown hK hP fl_X8_29 0 rfl rfl dX8_must_74 ?_
          refine lv_iload_n hx hb dX8_must_77 rfl (lv_at hl 3 rfl) ?_
          refine r_iald hx hb hK hP 1 rfl i rfl (by omega) (by decide) dX8_must_78 ?_
          refine lv_bipush (v := 8) hx hb dX8_must_79 (by decide) ?_
          have J_7 : ∀ (x_3 : Int32) (ex_3 : x_3 = (if ((upd jb1 i x_2) i) = 8 then 0 else (if ((upd jb1 i x_2) i) = 1 then (sX8_of f i 0) else (f 13)))) (eS : sX8_must q jb f n = (fun (x_3 : Int32) => (lp_X8_must_2 q jb f n d (i + 1) (upd q1 10 ((q1 10) + x_3)) (upd jb1 i x_2))) x_3) (H : Heap) (locs : List Loc) (ls : Array Slot) (hP : va_P G vwCl ([(h, .inr (8, moF b q1)), ((b 7), .inl (kk 0, 6, .inl (upd jb1 i x_2))), (ra, .inl (kk 0, 64, .inl f))]) H) (hD : va_D A ([(h, .inr (8, moF b q1)), ((b 7), .inl (kk 0, 6, .inl (upd jb1 i x_2))), (ra, .inl (kk 0, 64, .inl f))])) (hS : va_S A s.heap H locs) (hl : lv_has ls 4 [(3, .int x_1), (0, .ref h), (1, .ref ra), (2, .int (nI i))]), GO p l e (rmO 2 43) s m ([.ref h, .ref ra] : List Value).toArray below meth c A (QV G kk ([(h, .inr (8, moF b ((sX8_must q jb f n).1))), ((b 7), .inl (kk 0, 6, .inl ((sX8_must q jb f n).2))), (ra, .inl (kk 0, 64, .inl f))])) H locs (F0 m 111 ls [.int x_3, .int (q1 10), .ref h]) := by
            intro x_3 ex_3 eS H locs ls hP hD hS hl
            refine lv_iadd hx hb dX8_must_111 ?_
            refine r_put hx hb hts hown hK hP hD hS fl_X8_48 fw_8_10 0 rfl rfl rfl (Nat.le_of_ble_eq_true rfl) dX8_must_112 (fun H locs hP hD hS => ?_)
            replace hP : va_P G vwCl ([(h, .inr (8, moF b (upd q1 10 ((q1 10) + x_3)))), ((b 7), .inl (kk 0, 6, .inl (upd jb1 i x_2))), (ra, .inl (kk 0, 64, .inl f))]) H := hP
            replace hD : va_D A ([(h, .inr (8, moF b (upd q1 10 ((q1 10) + x_3)))), ((b 7), .inl (kk 0, 6, .inl (upd jb1 i x_2))), (ra, .inl (kk 0, 64, .inl f))]) := hD
            refine lv_iinc (v := (nI (i + 1))) (lv' := [(2, .int (nI (i + 1))), (3, .int x_1), (0, .ref h), (1, .ref ra)]) hx hb dX8_must_115 hl (k := 3) rfl (nI_add i 1) (by decide) rfl (fun ls hl => ?_)
            refine lv_goto (tgt := 2) hx hb dX8_must_118 (by decide) ?_
            exact ih (i + 1) (upd q1 10 ((q1 10) + x_3)) (upd jb1 i x_2) (by omega) eS _ _ ls hP hD hS (lv_sub hl [2, 3, 0] rfl)
          refine lv_icmp_ne (tgt := 88) hx hb dX8_must_81 (by decide) (fun c_81 => ?_) (fun c_81 => ?_)
          · refine lv_aload_n hx hb dX8_must_88 rfl (lv_at hl 1 rfl) ?_
            refine r_get (v := .ref (b 7)) hx hb hts hown hK hP fl_X8_29 0 rfl rfl dX8_must_89 ?_
            refine lv_iload_n hx hb dX8_must_92 rfl (lv_at hl 3 rfl) ?_
            refine r_iald hx hb hK hP 1 rfl i rfl (by omega) (by decide) dX8_must_93 ?_
            refine lv_iconst (v := 1) hx hb dX8_must_94 (by decide) ?_
            refine lv_icmp_ne (tgt := 107) hx hb dX8_must_95 (by decide) (fun c_95 => ?_) (fun c_95 => ?_)
            · refine lv_aload_n hx hb dX8_must_107 rfl (lv_at hl 2 rfl) ?_
              refine lv_bipush (v := 13) hx hb dX8_must_108 (by decide) ?_
              refine r_iald hx hb hK hP 2 rfl 13 rfl (by decide) (by decide) dX8_must_110 ?_
              exact J_7 (f 13) ((if_neg c_81).trans (if_neg c_95)).symm (eS.trans (cg1 ((fun (x_3 : Int32) => (lp_X8_must_2 q jb f n d (i + 1) (upd q1 10 ((q1 10) + x_3)) (upd jb1 i x_2)))) ((if_neg c_81).trans (if_neg c_95)))) _ _ ls hP hD hS (lv_sub hl [0, 1, 2, 3] rfl)
            · refine lv_aload_n hx hb dX8_must_98 rfl (lv_at hl 2 rfl) ?_
              refine lv_iload_n hx hb dX8_must_99 rfl (lv_at hl 3 rfl) ?_
              refine lv_iconst (v := 0) hx hb dX8_must_100 (by decide) ?_
              refine k_goI (k_runS (rest := [.int (q1 10), .ref h]) (As := [.ref ra, .int (nI i), .int 0]) hx hb hml hown hts hK hP hD hS hA hE hl.1 (c_X8_of l G kk ra f i 0 (by omega)) sl_X8_44 ⟨Nat.le_of_ble_eq_true rfl, Nat.le_of_ble_eq_true rfl, rfl, rfl⟩ [2] rfl rfl ⟨Nat.zero_le _, Nat.zero_le _⟩ rfl (Nat.le_of_ble_eq_true rfl) dX8_must_101) hP hD hS hA [2] rfl ads1 (fun H locs hP hD hS => ?_)
              replace hP : va_P G vwCl ([(h, .inr (8, moF b q1)), ((b 7), .inl (kk 0, 6, .inl (upd jb1 i x_2))), (ra, .inl (kk 0, 64, .inl f))]) H := hP
              replace hD : va_D A ([(h, .inr (8, moF b q1)), ((b 7), .inl (kk 0, 6, .inl (upd jb1 i x_2))), (ra, .inl (kk 0, 64, .inl f))]) := hD
              refine lv_goto (tgt := 111) hx hb dX8_must_104 (by decide) ?_
              exact J_7 (sX8_of f i 0) ((if_neg c_81).trans (if_pos c_95)).symm (eS.trans (cg1 ((fun (x_3 : Int32) => (lp_X8_must_2 q jb f n d (i + 1) (upd q1 10 ((q1 10) + x_3)) (upd jb1 i x_2)))) ((if_neg c_81).trans (if_pos c_95)))) _ _ ls hP hD hS (lv_sub hl [0, 1, 2, 3] rfl)
          · refine lv_iconst (v := 0) hx hb dX8_must_84 (by decide) ?_
            refine lv_goto (tgt := 111) hx hb dX8_must_85 (by decide) ?_
            exact J_7 0 (if_pos c_81).symm (eS.trans (cg1 ((fun (x_3 : Int32) => (lp_X8_must_2 q jb f n d (i + 1) (upd q1 10 ((q1 10) + x_3)) (upd jb1 i x_2)))) (if_pos c_81))) _ _ ls hP hD hS (lv_sub hl [0, 1, 2, 3] rfl)
        refine lv_if_eq (tgt := 38) hx hb dX8_must_31 (by decide) (fun c_31 => ?_) (fun c_31 => ?_)
        · refine lv_aload_n hx hb dX8_must_38 rfl (lv_at hl 2 rfl) ?_
          refine lv_iload_n hx hb dX8_must_39 rfl (lv_at hl 3 rfl) ?_
          refine k_goI (k_runS (rest := [.int (nI i), .ref (b 7)]) (As := [.ref ra, .int (nI i)]) hx hb hml hown hts hK hP hD hS hA hE hl.1 (c_X8_isWarm l G kk ra f i (by omega)) sl_X8_55 ⟨Nat.le_of_ble_eq_true rfl, Nat.le_of_ble_eq_true rfl, rfl, rfl⟩ [2] rfl rfl ⟨Nat.zero_le _, Nat.zero_le _⟩ rfl (Nat.le_of_ble_eq_true rfl) dX8_must_40) hP hD hS hA [2] rfl ads1 (fun H locs hP hD hS => ?_)
          replace hP : va_P G vwCl ([(h, .inr (8, moF b q1)), ((b 7), .inl (kk 0, 6, .inl jb1)), (ra, .inl (kk 0, 64, .inl f))]) H := hP
          replace hD : va_D A ([(h, .inr (8, moF b q1)), ((b 7), .inl (kk 0, 6, .inl jb1)), (ra, .inl (kk 0, 64, .inl f))]) := hD
          refine lv_if_eq (tgt := 50) hx hb dX8_must_43 (by decide) (fun c_43 => ?_) (fun c_43 => ?_)
          · refine lv_aload_n hx hb dX8_must_50 rfl (lv_at hl 2 rfl) ?_
            refine lv_iload_n hx hb dX8_must_51 rfl (lv_at hl 3 rfl) ?_
            refine lv_iconst (v := 5) hx hb dX8_must_52 (by decide) ?_
            refine k_goI (k_runS (rest := [.int (nI i), .ref (b 7)]) (As := [.ref ra, .int (nI i), .int 5]) hx hb hml hown hts hK hP hD hS hA hE hl.1 (c_X8_of l G kk ra f i 5 (by omega)) sl_X8_44 ⟨Nat.le_of_ble_eq_true rfl, Nat.le_of_ble_eq_true rfl, rfl, rfl⟩ [2] rfl rfl ⟨Nat.zero_le _, Nat.zero_le _⟩ rfl (Nat.le_of_ble_eq_true rfl) dX8_must_53) hP hD hS hA [2] rfl ads1 (fun H locs hP hD hS => ?_)
            replace hP : va_P G vwCl ([(h, .inr (8, moF b q1)), ((b 7), .inl (kk 0, 6, .inl jb1)), (ra, .inl (kk 0, 64, .inl f))]) H := hP
            replace hD : va_D A ([(h, .inr (8, moF b q1)), ((b 7), .inl (kk 0, 6, .inl jb1)), (ra, .inl (kk 0, 64, .inl f))]) := hD
            refine lv_bipush (v := 100) hx hb dX8_must_56 (by decide) ?_
            refine lv_icmp_ne (tgt := 65) hx hb dX8_must_58 (by decide) (fun c_58 => ?_) (fun c_58 => ?_)
            · refine lv_bipush (v := 8) hx hb dX8_must_65 (by decide) ?_
              exact J_6 8 ((if_pos c_31).trans ((if_pos c_43).trans (if_neg c_58))).symm (eS.trans (cg1 ((fun (x_2 : Int32) => ((fun (x_3 : Int32) => (lp_X8_must_2 q jb f n d (i + 1) (upd q1 10 ((q1 10) + x_3)) (upd jb1 i x_2))) (if ((upd jb1 i x_2) i) = 8 then 0 else (if ((upd jb1 i x_2) i) = 1 then (sX8_of f i 0) else (f 13)))))) ((if_pos c_31).trans ((if_pos c_43).trans (if_neg c_58))))) _ _ ls hP hD hS (lv_sub hl [0, 1, 2, 3] rfl)
            · refine lv_iconst (v := 2) hx hb dX8_must_61 (by decide) ?_
              refine lv_goto (tgt := 67) hx hb dX8_must_62 (by decide) ?_
              exact J_6 2 ((if_pos c_31).trans ((if_pos c_43).trans (if_pos c_58))).symm (eS.trans (cg1 ((fun (x_2 : Int32) => ((fun (x_3 : Int32) => (lp_X8_must_2 q jb f n d (i + 1) (upd q1 10 ((q1 10) + x_3)) (upd jb1 i x_2))) (if ((upd jb1 i x_2) i) = 8 then 0 else (if ((upd jb1 i x_2) i) = 1 then (sX8_of f i 0) else (f 13)))))) ((if_pos c_31).trans ((if_pos c_43).trans (if_pos c_58))))) _ _ ls hP hD hS (lv_sub hl [0, 1, 2, 3] rfl)
          · refine lv_iconst (v := 1) hx hb dX8_must_46 (by decide) ?_
            refine lv_goto (tgt := 67) hx hb dX8_must_47 (by decide) ?_
            exact J_6 1 ((if_pos c_31).trans (if_neg c_43)).symm (eS.trans (cg1 ((fun (x_2 : Int32) => ((fun (x_3 : Int32) => (lp_X8_must_2 q jb f n d (i + 1) (upd q1 10 ((q1 10) + x_3)) (upd jb1 i x_2))) (if ((upd jb1 i x_2) i) = 8 then 0 else (if ((upd jb1 i x_2) i) = 1 then (sX8_of f i 0) else (f 13)))))) ((if_pos c_31).trans (if_neg c_43)))) _ _ ls hP hD hS (lv_sub hl [0, 1, 2, 3] rfl)
        · refine lv_iconst (v := 0) hx hb dX8_must_34 (by decide) ?_
          refine lv_goto (tgt := 67) hx hb dX8_must_35 (by decide) ?_
          exact J_6 0 (if_neg c_31).symm (eS.trans (cg1 ((fun (x_2 : Int32) => ((fun (x_3 : Int32) => (lp_X8_must_2 q jb f n d (i + 1) (upd q1 10 ((q1 10) + x_3)) (upd jb1 i x_2))) (if ((upd jb1 i x_2) i) = 8 then 0 else (if ((upd jb1 i x_2) i) = 1 then (sX8_of f i 0) else (f 13)))))) (if_neg c_31))) _ _ ls hP hD hS (lv_sub hl [0, 1, 2, 3] rfl)
      refine lv_if_le (tgt := 23) hx hb dX8_must_16 (by decide) (fun c_16 => ?_) (fun c_16 => ?_)
      · refine lv_iconst (v := 0) hx hb dX8_must_23 (by decide) ?_
        exact J_5 0 (if_pos c_16).symm (eS.trans (cg1 ((fun (x_1 : Int32) => ((fun (x_2 : Int32) => ((fun (x_3 : Int32) => (lp_X8_must_2 q jb f n d (i + 1) (upd q1 10 ((q1 10) + x_3)) (upd jb1 i x_2))) (if ((upd jb1 i x_2) i) = 8 then 0 else (if ((upd jb1 i x_2) i) = 1 then (sX8_of f i 0) else (f 13))))) (if x_1 = 0 then (if (sX8_isWarm f i) = 0 then (if (sX8_of f i 5) = 100 then 2 else 8) else 1) else 0)))) (if_pos c_16))) _ _ ls hP hD hS (lv_sub hl [0, 1, 2] rfl)
      · refine lv_iconst (v := 1) hx hb dX8_must_19 (by decide) ?_
        refine lv_goto (tgt := 24) hx hb dX8_must_20 (by decide) ?_
        exact J_5 1 (if_neg c_16).symm (eS.trans (cg1 ((fun (x_1 : Int32) => ((fun (x_2 : Int32) => ((fun (x_3 : Int32) => (lp_X8_must_2 q jb f n d (i + 1) (upd q1 10 ((q1 10) + x_3)) (upd jb1 i x_2))) (if ((upd jb1 i x_2) i) = 8 then 0 else (if ((upd jb1 i x_2) i) = 1 then (sX8_of f i 0) else (f 13))))) (if x_1 = 0 then (if (sX8_isWarm f i) = 0 then (if (sX8_of f i 5) = 100 then 2 else 8) else 1) else 0)))) (if_neg c_16))) _ _ ls hP hD hS (lv_sub hl [0, 1, 2] rfl)
  exact L_4 n 0 q jb (Nat.zero_add _) eS _ _ ls hP hD hS (lv_sub hl [1, 2, 0] rfl)
def lp_X8_nextWarm_4 (jb : Nat → Int32) (f : Nat → Int32) (n : Nat) : Nat → Nat → Option Nat → Option Nat
  | 0, i, w => (oe w none (fun k_1 => (some k_1)))
  | d + 1, i, w => (if (jb i) = 8 then (if (sX8_over f i) ≤ 0 then (oe w (lp_X8_nextWarm_4 jb f n d (i + 1) none) (fun k_3 => (lp_X8_nextWarm_4 jb f n d (i + 1) (some k_3)))) else (oe w (lp_X8_nextWarm_4 jb f n d (i + 1) (some i)) (fun k_4 => (if (sX8_over f i) ≤ (sX8_over f k_4) then (lp_X8_nextWarm_4 jb f n d (i + 1) (some k_4)) else (lp_X8_nextWarm_4 jb f n d (i + 1) (some i)))))) else (oe w (lp_X8_nextWarm_4 jb f n d (i + 1) none) (fun k_2 => (lp_X8_nextWarm_4 jb f n d (i + 1) (some k_2)))))
def sX8_nextWarm (jb : Nat → Int32) (f : Nat → Int32) (n : Nat) : Option Nat :=
  (lp_X8_nextWarm_4 jb f n n 0 none)
set_option maxRecDepth 100000 in
set_option maxHeartbeats 4000000 in
theorem c_X8_nextWarm (l : Launch) (G : va_G) (kk : Nat → ClassId) (h : Nat) (b : Nat → Nat) (q : Nat → Int32) (jb : Nat → Int32) (ra : Nat) (f : Nat → Int32) (n : Nat) (hn : f 0 = nI n) (h6 : n ≤ 6) : CC l yX8_nextWarm cX8_nextWarm 5 (some .int) (rmO 2 43) [.ref h, .ref ra] G kk ([(h, .inr (8, moF b q)), ((b 7), .inl (kk 0, 6, .inl jb)), (ra, .inl (kk 0, 64, .inl f))]) (QI G kk ([(h, .inr (8, moF b q)), ((b 7), .inl (kk 0, 6, .inl jb)), (ra, .inl (kk 0, 64, .inl f))]) (ob (sX8_nextWarm jb f n))) := by
  refine cc_start (by decide +kernel) (Nat.le_of_ble_eq_true rfl) ?_
  intro p e s m below meth c A ls hx hb hr hml hown hts hlocks hA hE hK hP hD hS hl
  have hown : s.vm.findClass RX8 = some m.cls := hown
  have hl : lv_has ls 5 [(0, .ref h), (1, .ref ra)] := hl
  have eS : sX8_nextWarm jb f n = sX8_nextWarm jb f n := rfl
  refine lv_iconst (v := (-1)) hx hb dX8_nextWarm_0 (by decide) ?_
  refine lv_istore_n (lv' := [(2, .int (-1)), (0, .ref h), (1, .ref ra)]) hx hb dX8_nextWarm_1 rfl hl (by decide) rfl (fun ls hl => ?_)
  refine lv_iconst (v := 0) hx hb dX8_nextWarm_2 (by decide) ?_
  refine lv_istore_n (lv' := [(3, .int 0), (2, .int (-1)), (0, .ref h), (1, .ref ra)]) hx hb dX8_nextWarm_3 rfl hl (by decide) rfl (fun ls hl => ?_)
  have L_5 : ∀ (d : Nat) (i : Nat) (w : Option Nat) (hd : i + d = n) (hw : ∀ k, w = some k → k < n) (eS : sX8_nextWarm jb f n = lp_X8_nextWarm_4 jb f n d i w) (H : Heap) (locs : List Loc) (ls : Array Slot) (hP : va_P G vwCl ([(h, .inr (8, moF b q)), ((b 7), .inl (kk 0, 6, .inl jb)), (ra, .inl (kk 0, 64, .inl f))]) H) (hD : va_D A ([(h, .inr (8, moF b q)), ((b 7), .inl (kk 0, 6, .inl jb)), (ra, .inl (kk 0, 64, .inl f))])) (hS : va_S A s.heap H locs) (hl : lv_has ls 5 [(0, .ref h), (1, .ref ra), (3, .int (nI i)), (2, .int (ob w))]), GO p l e (rmO 2 43) s m ([.ref h, .ref ra] : List Value).toArray below meth c A (QI G kk ([(h, .inr (8, moF b q)), ((b 7), .inl (kk 0, 6, .inl jb)), (ra, .inl (kk 0, 64, .inl f))]) (ob (sX8_nextWarm jb f n))) H locs (F0 m 4 ls []) := by
    intro d
    induction d with
    | zero =>
      intro i w hd hw eS H locs ls hP hD hS hl
      refine lv_iload_n hx hb dX8_nextWarm_4 rfl (lv_at hl 2 rfl) ?_
      refine lv_aload_n hx hb dX8_nextWarm_5 rfl (lv_at hl 1 rfl) ?_
      refine lv_iconst (v := 0) hx hb dX8_nextWarm_6 (by decide) ?_
      refine r_iald hx hb hK hP 2 rfl 0 rfl (by decide) (by decide) dX8_nextWarm_7 ?_
      refine lv_icmp_ge (tgt := 72) hx hb dX8_nextWarm_8 (by decide) (fun c_8 => ?_) (fun c_8 => absurd (fle hn (by omega) (by omega)) c_8)
      rcases opt_or w with rfl | ⟨k_1, rfl⟩
      · have hl : lv_has ls 5 [(0, .ref h), (1, .ref ra), (3, .int (nI i)), (2, .int (-1))] := hl
        have eS := eS.trans (oe_n rfl)
        refine lv_iload_n hx hb dX8_nextWarm_72 rfl (lv_at hl 3 rfl) ?_
        exact fin_i (v := (ob none)) hx hb hr hlocks hK hP hD hS (congrArg (fun z : Option Nat => (ob z)) eS) dX8_nextWarm_73
      · have hl : lv_has ls 5 [(0, .ref h), (1, .ref ra), (3, .int (nI i)), (2, .int (nI k_1))] := hl
        have hk_1 := hw k_1 rfl
        have eS := eS.trans (oe_s rfl)
        refine lv_iload_n hx hb dX8_nextWarm_72 rfl (lv_at hl 3 rfl) ?_
        exact fin_i (v := (ob (some k_1))) hx hb hr hlocks hK hP hD hS (congrArg (fun z : Option Nat => (ob z)) eS) dX8_nextWarm_73
    | succ d ih =>
      intro i w hd hw eS H locs ls hP hD hS hl
      refine lv_iload_n hx hb dX8_nextWarm_4 rfl (lv_at hl 2 rfl) ?_
      refine lv_aload_n hx hb dX8_nextWarm_5 rfl (lv_at hl 1 rfl) ?_
      refine lv_iconst (v := 0) hx hb dX8_nextWarm_6 (by decide) ?_
      refine r_iald hx hb hK hP 2 rfl 0 rfl (by decide) (by decide) dX8_nextWarm_7 ?_
      refine lv_icmp_ge (tgt := 72) hx hb dX8_nextWarm_8 (by decide) (fun c_8 => absurd c_8 (fgt hn (by omega) (by omega))) (fun c_8 => ?_)
      refine lv_aload_n hx hb dX8_nextWarm_11 rfl (lv_at hl 0 rfl) ?_
      refine r_get (v := .ref (b 7)) hx hb hts hown hK hP fl_X8_29 0 rfl rfl dX8_nextWarm_12 ?_
      refine lv_iload_n hx hb dX8_nextWarm_15 rfl (lv_at hl 2 rfl) ?_
      refine r_iald hx hb hK hP 1 rfl i rfl (by omega) (by decide) dX8_nextWarm_16 ?_
      refine lv_bipush (v := 8) hx hb dX8_nextWarm_17 (by decide) ?_
      refine lv_icmp_ne (tgt := 34) hx hb dX8_nextWarm_19 (by decide) (fun c_19 => ?_) (fun c_19 => ?_)
      · have eS := eS.trans (if_neg c_19)
        refine lv_iconst (v := 0) hx hb dX8_nextWarm_34 (by decide) ?_
        refine lv_istore (lv' := [(4, .int 0), (0, .ref h), (1, .ref ra), (3, .int (nI i)), (2, .int (ob w))]) hx hb dX8_nextWarm_35 hl (by decide) rfl (fun ls hl => ?_)
        refine lv_iload hx hb dX8_nextWarm_37 (lv_at hl 0 rfl) ?_
        refine lv_if_eq (tgt := 64) hx hb dX8_nextWarm_39 (by decide) (fun c_39 => ?_) (fun c_39 => absurd (by decide) c_39)
        rcases opt_or w with rfl | ⟨k_2, rfl⟩
        · have hl : lv_has ls 5 [(4, .int 0), (0, .ref h), (1, .ref ra), (3, .int (nI i)), (2, .int (-1))] := hl
          have eS := eS.trans (oe_n rfl)
          refine lv_iload_n hx hb dX8_nextWarm_64 rfl (lv_at hl 4 rfl) ?_
          refine lv_istore_n (lv' := [(2, .int (-1)), (4, .int 0), (0, .ref h), (1, .ref ra), (3, .int (nI i))]) hx hb dX8_nextWarm_65 rfl hl (by decide) rfl (fun ls hl => ?_)
          refine lv_iinc (v := (nI (i + 1))) (lv' := [(3, .int (nI (i + 1))), (2, .int (-1)), (4, .int 0), (0, .ref h), (1, .ref ra)]) hx hb dX8_nextWarm_66 hl (k := 4) rfl (nI_add i 1) (by decide) rfl (fun ls hl => ?_)
          refine lv_goto (tgt := 4) hx hb dX8_nextWarm_69 (by decide) ?_
          exact ih (i + 1) none (by omega) (by first | exact hw | (intro k h; cases h; omega)) eS _ _ ls hP hD hS (lv_sub hl [3, 4, 0, 1] rfl)
        · have hl : lv_has ls 5 [(4, .int 0), (0, .ref h), (1, .ref ra), (3, .int (nI i)), (2, .int (nI k_2))] := hl
          have hk_2 := hw k_2 rfl
          have eS := eS.trans (oe_s rfl)
          refine lv_iload_n hx hb dX8_nextWarm_64 rfl (lv_at hl 4 rfl) ?_
          refine lv_istore_n (lv' := [(2, .int (nI k_2)), (4, .int 0), (0, .ref h), (1, .ref ra), (3, .int (nI i))]) hx hb dX8_nextWarm_65 rfl hl (by decide) rfl (fun ls hl => ?_)
          refine lv_iinc (v := (nI (i + 1))) (lv' := [(3, .int (nI (i + 1))), (2, .int (nI k_2)), (4, .int 0), (0, .ref h), (1, .ref ra)]) hx hb dX8_nextWarm_66 hl (k := 4) rfl (nI_add i 1) (by decide) rfl (fun ls hl => ?_)
          refine lv_goto (tgt := 4) hx hb dX8_nextWarm_69 (by decide) ?_
          exact ih (i + 1) (some k_2) (by omega) (by first | exact hw | (intro k h; cases h; omega)) eS _ _ ls hP hD hS (lv_sub hl [3, 4, 0, 1] rfl)
      · have eS := eS.trans (if_pos c_19)
        refine lv_aload_n hx hb dX8_nextWarm_22 rfl (lv_at hl 1 rfl) ?_
        refine lv_iload_n hx hb dX8_nextWarm_23 rfl (lv_at hl 2 rfl) ?_
        refine k_goI (k_runS (rest := []) (As := [.ref ra, .int (nI i)]) hx hb hml hown hts hK hP hD hS hA hE hl.1 (c_X8_over l G kk ra f i (by omega)) sl_X8_59 ⟨Nat.le_of_ble_eq_true rfl, Nat.le_of_ble_eq_true rfl, rfl, rfl⟩ [2] rfl rfl ⟨Nat.zero_le _, Nat.zero_le _⟩ rfl (Nat.le_of_ble_eq_true rfl) dX8_nextWarm_24) hP hD hS hA [2] rfl ads1 (fun H locs hP hD hS => ?_)
        replace hP : va_P G vwCl ([(h, .inr (8, moF b q)), ((b 7), .inl (kk 0, 6, .inl jb)), (ra, .inl (kk 0, 64, .inl f))]) H := hP
        replace hD : va_D A ([(h, .inr (8, moF b q)), ((b 7), .inl (kk 0, 6, .inl jb)), (ra, .inl (kk 0, 64, .inl f))]) := hD
        refine lv_if_le (tgt := 34) hx hb dX8_nextWarm_27 (by decide) (fun c_27 => ?_) (fun c_27 => ?_)
        · have eS := eS.trans (if_pos c_27)
          refine lv_iconst (v := 0) hx hb dX8_nextWarm_34 (by decide) ?_
          refine lv_istore (lv' := [(4, .int 0), (0, .ref h), (1, .ref ra), (3, .int (nI i)), (2, .int (ob w))]) hx hb dX8_nextWarm_35 hl (by decide) rfl (fun ls hl => ?_)
          refine lv_iload hx hb dX8_nextWarm_37 (lv_at hl 0 rfl) ?_
          refine lv_if_eq (tgt := 64) hx hb dX8_nextWarm_39 (by decide) (fun c_39 => ?_) (fun c_39 => absurd (by decide) c_39)
          rcases opt_or w with rfl | ⟨k_3, rfl⟩
          · have hl : lv_has ls 5 [(4, .int 0), (0, .ref h), (1, .ref ra), (3, .int (nI i)), (2, .int (-1))] := hl
            have eS := eS.trans (oe_n rfl)
            refine lv_iload_n hx hb dX8_nextWarm_64 rfl (lv_at hl 4 rfl) ?_
            refine lv_istore_n (lv' := [(2, .int (-1)), (4, .int 0), (0, .ref h), (1, .ref ra), (3, .int (nI i))]) hx hb dX8_nextWarm_65 rfl hl (by decide) rfl (fun ls hl => ?_)
            refine lv_iinc (v := (nI (i + 1))) (lv' := [(3, .int (nI (i + 1))), (2, .int (-1)), (4, .int 0), (0, .ref h), (1, .ref ra)]) hx hb dX8_nextWarm_66 hl (k := 4) rfl (nI_add i 1) (by decide) rfl (fun ls hl => ?_)
            refine lv_goto (tgt := 4) hx hb dX8_nextWarm_69 (by decide) ?_
            exact ih (i + 1) none (by omega) (by first | exact hw | (intro k h; cases h; omega)) eS _ _ ls hP hD hS (lv_sub hl [3, 4, 0, 1] rfl)
          · have hl : lv_has ls 5 [(4, .int 0), (0, .ref h), (1, .ref ra), (3, .int (nI i)), (2, .int (nI k_3))] := hl
            have hk_3 := hw k_3 rfl
            have eS := eS.trans (oe_s rfl)
            refine lv_iload_n hx hb dX8_nextWarm_64 rfl (lv_at hl 4 rfl) ?_
            refine lv_istore_n (lv' := [(2, .int (nI k_3)), (4, .int 0), (0, .ref h), (1, .ref ra), (3, .int (nI i))]) hx hb dX8_nextWarm_65 rfl hl (by decide) rfl (fun ls hl => ?_)
            refine lv_iinc (v := (nI (i + 1))) (lv' := [(3, .int (nI (i + 1))), (2, .int (nI k_3)), (4, .int 0), (0, .ref h), (1, .ref ra)]) hx hb dX8_nextWarm_66 hl (k := 4) rfl (nI_add i 1) (by decide) rfl (fun ls hl => ?_)
            refine lv_goto (tgt := 4) hx hb dX8_nextWarm_69 (by decide) ?_
            exact ih (i + 1) (some k_3) (by omega) (by first | exact hw | (intro k h; cases h; omega)) eS _ _ ls hP hD hS (lv_sub hl [3, 4, 0, 1] rfl)
        · have eS := eS.trans (if_neg c_27)
          refine lv_iconst (v := 1) hx hb dX8_nextWarm_30 (by decide) ?_
          refine lv_goto (tgt := 35) hx hb dX8_nextWarm_31 (by decide) ?_
          refine lv_istore (lv' := [(4, .int 1), (0, .ref h), (1, .ref ra), (3, .int (nI i)), (2, .int (ob w))]) hx hb dX8_nextWarm_35 hl (by decide) rfl (fun ls hl => ?_)
          refine lv_iload hx hb dX8_nextWarm_37 (lv_at hl 0 rfl) ?_
          refine lv_if_eq (tgt := 64) hx hb dX8_nextWarm_39 (by decide) (fun c_39 => absurd c_39 (by decide)) (fun c_39 => ?_)
          rcases opt_or w with rfl | ⟨k_4, rfl⟩
          · have hl : lv_has ls 5 [(4, .int 1), (0, .ref h), (1, .ref ra), (3, .int (nI i)), (2, .int (-1))] := hl
            have eS := eS.trans (oe_n rfl)
            refine lv_iload_n hx hb dX8_nextWarm_42 rfl (lv_at hl 4 rfl) ?_
            refine lv_iconst (v := (-1)) hx hb dX8_nextWarm_43 (by decide) ?_
            refine lv_icmp_eq (tgt := 60) hx hb dX8_nextWarm_44 (by decide) (fun c_44 => ?_) (fun c_44 => absurd (by decide) c_44)
            refine lv_iload_n hx hb dX8_nextWarm_60 rfl (lv_at hl 3 rfl) ?_
            refine lv_goto (tgt := 65) hx hb dX8_nextWarm_61 (by decide) ?_
            refine lv_istore_n (lv' := [(2, .int (nI i)), (4, .int 1), (0, .ref h), (1, .ref ra), (3, .int (nI i))]) hx hb dX8_nextWarm_65 rfl hl (by decide) rfl (fun ls hl => ?_)
            refine lv_iinc (v := (nI (i + 1))) (lv' := [(3, .int (nI (i + 1))), (2, .int (nI i)), (4, .int 1), (0, .ref h), (1, .ref ra)]) hx hb dX8_nextWarm_66 hl (k := 4) rfl (nI_add i 1) (by decide) rfl (fun ls hl => ?_)
            refine lv_goto (tgt := 4) hx hb dX8_nextWarm_69 (by decide) ?_
            exact ih (i + 1) (some i) (by omega) (by first | exact hw | (intro k h; cases h; omega)) eS _ _ ls hP hD hS (lv_sub hl [3, 4, 0, 1] rfl)
          · have hl : lv_has ls 5 [(4, .int 1), (0, .ref h), (1, .ref ra), (3, .int (nI i)), (2, .int (nI k_4))] := hl
            have hk_4 := hw k_4 rfl
            have eS := eS.trans (oe_s rfl)
            refine lv_iload_n hx hb dX8_nextWarm_42 rfl (lv_at hl 4 rfl) ?_
            refine lv_iconst (v := (-1)) hx hb dX8_nextWarm_43 (by decide) ?_
            refine lv_icmp_eq (tgt := 60) hx hb dX8_nextWarm_44 (by decide) (fun c_44 => absurd c_44 (nI_nm1 (by omega))) (fun c_44 => ?_)
            refine lv_aload_n hx hb dX8_nextWarm_47 rfl (lv_at hl 2 rfl) ?_
            refine lv_iload_n hx hb dX8_nextWarm_48 rfl (lv_at hl 3 rfl) ?_
            refine k_goI (k_runS (rest := []) (As := [.ref ra, .int (nI i)]) hx hb hml hown hts hK hP hD hS hA hE hl.1 (c_X8_over l G kk ra f i (by omega)) sl_X8_59 ⟨Nat.le_of_ble_eq_true rfl, Nat.le_of_ble_eq_true rfl, rfl, rfl⟩ [2] rfl rfl ⟨Nat.zero_le _, Nat.zero_le _⟩ rfl (Nat.le_of_ble_eq_true rfl) dX8_nextWarm_49) hP hD hS hA [2] rfl ads1 (fun H locs hP hD hS => ?_)
            replace hP : va_P G vwCl ([(h, .inr (8, moF b q)), ((b 7), .inl (kk 0, 6, .inl jb)), (ra, .inl (kk 0, 64, .inl f))]) H := hP
            replace hD : va_D A ([(h, .inr (8, moF b q)), ((b 7), .inl (kk 0, 6, .inl jb)), (ra, .inl (kk 0, 64, .inl f))]) := hD
            refine lv_aload_n hx hb dX8_nextWarm_52 rfl (lv_at hl 2 rfl) ?_
            refine lv_iload_n hx hb dX8_nextWarm_53 rfl (lv_at hl 4 rfl) ?_
            refine k_goI (k_runS (rest := [.int (sX8_over f i)]) (As := [.ref ra, .int (nI k_4)]) hx hb hml hown hts hK hP hD hS hA hE hl.1 (c_X8_over l G kk ra f k_4 (by omega)) sl_X8_59 ⟨Nat.le_of_ble_eq_true rfl, Nat.le_of_ble_eq_true rfl, rfl, rfl⟩ [2] rfl rfl ⟨Nat.zero_le _, Nat.zero_le _⟩ rfl (Nat.le_of_ble_eq_true rfl) dX8_nextWarm_54) hP hD hS hA [2] rfl ads1 (fun H locs hP hD hS => ?_)
            replace hP : va_P G vwCl ([(h, .inr (8, moF b q)), ((b 7), .inl (kk 0, 6, .inl jb)), (ra, .inl (kk 0, 64, .inl f))]) H := hP
            replace hD : va_D A ([(h, .inr (8, moF b q)), ((b 7), .inl (kk 0, 6, .inl jb)), (ra, .inl (kk 0, 64, .inl f))]) := hD
            refine lv_icmp_le (tgt := 64) hx hb dX8_nextWarm_57 (by decide) (fun c_57 => ?_) (fun c_57 => ?_)
            · have eS := eS.trans (if_pos c_57)
              refine lv_iload_n hx hb dX8_nextWarm_64 rfl (lv_at hl 4 rfl) ?_
              refine lv_istore_n (lv' := [(2, .int (nI k_4)), (4, .int 1), (0, .ref h), (1, .ref ra), (3, .int (nI i))]) hx hb dX8_nextWarm_65 rfl hl (by decide) rfl (fun ls hl => ?_)
              refine lv_iinc (v := (nI (i + 1))) (lv' := [(3, .int (nI (i + 1))), (2, .int (nI k_4)), (4, .int 1), (0, .ref h), (1, .ref ra)]) hx hb dX8_nextWarm_66 hl (k := 4) rfl (nI_add i 1) (by decide) rfl (fun ls hl => ?_)
              refine lv_goto (tgt := 4) hx hb dX8_nextWarm_69 (by decide) ?_
              exact ih (i + 1) (some k_4) (by omega) (by first | exact hw | (intro k h; cases h; omega)) eS _ _ ls hP hD hS (lv_sub hl [3, 4, 0, 1] rfl)
            · have eS := eS.trans (if_neg c_57)
              refine lv_iload_n hx hb dX8_nextWarm_60 rfl (lv_at hl 3 rfl) ?_
              refine lv_goto (tgt := 65) hx hb dX8_nextWarm_61 (by decide) ?_
              refine lv_istore_n (lv' := [(2, .int (nI i)), (4, .int 1), (0, .ref h), (1, .ref ra), (3, .int (nI i))]) hx hb dX8_nextWarm_65 rfl hl (by decide) rfl (fun ls hl => ?_)
              refine lv_iinc (v := (nI (i + 1))) (lv' := [(3, .int (nI (i + 1))), (2, .int (nI i)), (4, .int 1), (0, .ref h), (1, .ref ra)]) hx hb dX8_nextWarm_66 hl (k := 4) rfl (nI_add i 1) (by decide) rfl (fun ls hl => ?_)
              refine lv_goto (tgt := 4) hx hb dX8_nextWarm_69 (by decide) ?_
              exact ih (i + 1) (some i) (by omega) (by first | exact hw | (intro k h; cases h; omega)) eS _ _ ls hP hD hS (lv_sub hl [3, 4, 0, 1] rfl)
  exact L_5 n 0 none (Nat.zero_add _) (fun k h => by cases h) eS _ _ ls hP hD hS (lv_sub hl [2, 3, 0, 1] rfl)
def lp_X8_nextFrost_4 (jb : Nat → Int32) (f : Nat → Int32) (n : Nat) : Nat → Nat → Option Nat → Option Nat
  | 0, i, w => (oe w none (fun k_1 => (some k_1)))
  | d + 1, i, w => (if (jb i) = 8 then (if (sX8_of f i 5) < (f 14) then (oe w (lp_X8_nextFrost_4 jb f n d (i + 1) none) (fun k_3 => (lp_X8_nextFrost_4 jb f n d (i + 1) (some k_3)))) else (oe w (lp_X8_nextFrost_4 jb f n d (i + 1) (some i)) (fun k_4 => (if (sX8_of f i 5) ≤ (sX8_of f k_4 5) then (lp_X8_nextFrost_4 jb f n d (i + 1) (some k_4)) else (lp_X8_nextFrost_4 jb f n d (i + 1) (some i)))))) else (oe w (lp_X8_nextFrost_4 jb f n d (i + 1) none) (fun k_2 => (lp_X8_nextFrost_4 jb f n d (i + 1) (some k_2)))))
def sX8_nextFrost (jb : Nat → Int32) (f : Nat → Int32) (n : Nat) : Option Nat :=
  (lp_X8_nextFrost_4 jb f n n 0 none)
set_option maxRecDepth 100000 in
set_option maxHeartbeats 4000000 in
theorem c_X8_nextFrost (l : Launch) (G : va_G) (kk : Nat → ClassId) (h : Nat) (b : Nat → Nat) (q : Nat → Int32) (jb : Nat → Int32) (ra : Nat) (f : Nat → Int32) (n : Nat) (hn : f 0 = nI n) (h6 : n ≤ 6) : CC l yX8_nextFrost cX8_nextFrost 5 (some .int) (rmO 1 22) [.ref h, .ref ra] G kk ([(h, .inr (8, moF b q)), ((b 7), .inl (kk 0, 6, .inl jb)), (ra, .inl (kk 0, 64, .inl f))]) (QI G kk ([(h, .inr (8, moF b q)), ((b 7), .inl (kk 0, 6, .inl jb)), (ra, .inl (kk 0, 64, .inl f))]) (ob (sX8_nextFrost jb f n))) := by
  refine cc_start (by decide +kernel) (Nat.le_of_ble_eq_true rfl) ?_
  intro p e s m below meth c A ls hx hb hr hml hown hts hlocks hA hE hK hP hD hS hl
  have hown : s.vm.findClass RX8 = some m.cls := hown
  have hl : lv_has ls 5 [(0, .ref h), (1, .ref ra)] := hl
  have eS : sX8_nextFrost jb f n = sX8_nextFrost jb f n := rfl
  refine lv_iconst (v := (-1)) hx hb dX8_nextFrost_0 (by decide) ?_
  refine lv_istore_n (lv' := [(2, .int (-1)), (0, .ref h), (1, .ref ra)]) hx hb dX8_nextFrost_1 rfl hl (by decide) rfl (fun ls hl => ?_)
  refine lv_iconst (v := 0) hx hb dX8_nextFrost_2 (by decide) ?_
  refine lv_istore_n (lv' := [(3, .int 0), (2, .int (-1)), (0, .ref h), (1, .ref ra)]) hx hb dX8_nextFrost_3 rfl hl (by decide) rfl (fun ls hl => ?_)
  have L_5 : ∀ (d : Nat) (i : Nat) (w : Option Nat) (hd : i + d = n) (hw : ∀ k, w = some k → k < n) (eS : sX8_nextFrost jb f n = lp_X8_nextFrost_4 jb f n d i w) (H : Heap) (locs : List Loc) (ls : Array Slot) (hP : va_P G vwCl ([(h, .inr (8, moF b q)), ((b 7), .inl (kk 0, 6, .inl jb)), (ra, .inl (kk 0, 64, .inl f))]) H) (hD : va_D A ([(h, .inr (8, moF b q)), ((b 7), .inl (kk 0, 6, .inl jb)), (ra, .inl (kk 0, 64, .inl f))])) (hS : va_S A s.heap H locs) (hl : lv_has ls 5 [(0, .ref h), (1, .ref ra), (3, .int (nI i)), (2, .int (ob w))]), GO p l e (rmO 1 22) s m ([.ref h, .ref ra] : List Value).toArray below meth c A (QI G kk ([(h, .inr (8, moF b q)), ((b 7), .inl (kk 0, 6, .inl jb)), (ra, .inl (kk 0, 64, .inl f))]) (ob (sX8_nextFrost jb f n))) H locs (F0 m 4 ls []) := by
    intro d
    induction d with
    | zero =>
      intro i w hd hw eS H locs ls hP hD hS hl
      refine lv_iload_n hx hb dX8_nextFrost_4 rfl (lv_at hl 2 rfl) ?_
      refine lv_aload_n hx hb dX8_nextFrost_5 rfl (lv_at hl 1 rfl) ?_
      refine lv_iconst (v := 0) hx hb dX8_nextFrost_6 (by decide) ?_
      refine r_iald hx hb hK hP 2 rfl 0 rfl (by decide) (by decide) dX8_nextFrost_7 ?_
      refine lv_icmp_ge (tgt := 79) hx hb dX8_nextFrost_8 (by decide) (fun c_8 => ?_) (fun c_8 => absurd (fle hn (by omega) (by omega)) c_8)
      rcases opt_or w with rfl | ⟨k_1, rfl⟩
      · have hl : lv_has ls 5 [(0, .ref h), (1, .ref ra), (3, .int (nI i)), (2, .int (-1))] := hl
        have eS := eS.trans (oe_n rfl)
        refine lv_iload_n hx hb dX8_nextFrost_79 rfl (lv_at hl 3 rfl) ?_
        exact fin_i (v := (ob none)) hx hb hr hlocks hK hP hD hS (congrArg (fun z : Option Nat => (ob z)) eS) dX8_nextFrost_80
      · have hl : lv_has ls 5 [(0, .ref h), (1, .ref ra), (3, .int (nI i)), (2, .int (nI k_1))] := hl
        have hk_1 := hw k_1 rfl
        have eS := eS.trans (oe_s rfl)
        refine lv_iload_n hx hb dX8_nextFrost_79 rfl (lv_at hl 3 rfl) ?_
        exact fin_i (v := (ob (some k_1))) hx hb hr hlocks hK hP hD hS (congrArg (fun z : Option Nat => (ob z)) eS) dX8_nextFrost_80
    | succ d ih =>
      intro i w hd hw eS H locs ls hP hD hS hl
      refine lv_iload_n hx hb dX8_nextFrost_4 rfl (lv_at hl 2 rfl) ?_
      refine lv_aload_n hx hb dX8_nextFrost_5 rfl (lv_at hl 1 rfl) ?_
      refine lv_iconst (v := 0) hx hb dX8_nextFrost_6 (by decide) ?_
      refine r_iald hx hb hK hP 2 rfl 0 rfl (by decide) (by decide) dX8_nextFrost_7 ?_
      refine lv_icmp_ge (tgt := 79) hx hb dX8_nextFrost_8 (by decide) (fun c_8 => absurd c_8 (fgt hn (by omega) (by omega))) (fun c_8 => ?_)
      refine lv_aload_n hx hb dX8_nextFrost_11 rfl (lv_at hl 0 rfl) ?_
      refine r_get (v := .ref (b 7)) hx hb hts hown hK hP fl_X8_29 0 rfl rfl dX8_nextFrost_12 ?_
      refine lv_iload_n hx hb dX8_nextFrost_15 rfl (lv_at hl 2 rfl) ?_
      refine r_iald hx hb hK hP 1 rfl i rfl (by omega) (by decide) dX8_nextFrost_16 ?_
      refine lv_bipush (v := 8) hx hb dX8_nextFrost_17 (by decide) ?_
      refine lv_icmp_ne (tgt := 39) hx hb dX8_nextFrost_19 (by decide) (fun c_19 => ?_) (fun c_19 => ?_)
      · have eS := eS.trans (if_neg c_19)
        refine lv_iconst (v := 0) hx hb dX8_nextFrost_39 (by decide) ?_
        refine lv_istore (lv' := [(4, .int 0), (0, .ref h), (1, .ref ra), (3, .int (nI i)), (2, .int (ob w))]) hx hb dX8_nextFrost_40 hl (by decide) rfl (fun ls hl => ?_)
        refine lv_iload hx hb dX8_nextFrost_42 (lv_at hl 0 rfl) ?_
        refine lv_if_eq (tgt := 71) hx hb dX8_nextFrost_44 (by decide) (fun c_44 => ?_) (fun c_44 => absurd (by decide) c_44)
        rcases opt_or w with rfl | ⟨k_2, rfl⟩
        · have hl : lv_has ls 5 [(4, .int 0), (0, .ref h), (1, .ref ra), (3, .int (nI i)), (2, .int (-1))] := hl
          have eS := eS.trans (oe_n rfl)
          refine lv_iload_n hx hb dX8_nextFrost_71 rfl (lv_at hl 4 rfl) ?_
          refine lv_istore_n (lv' := [(2, .int (-1)), (4, .int 0), (0, .ref h), (1, .ref ra), (3, .int (nI i))]) hx hb dX8_nextFrost_72 rfl hl (by decide) rfl (fun ls hl => ?_)
          refine lv_iinc (v := (nI (i + 1))) (lv' := [(3, .int (nI (i + 1))), (2, .int (-1)), (4, .int 0), (0, .ref h), (1, .ref ra)]) hx hb dX8_nextFrost_73 hl (k := 4) rfl (nI_add i 1) (by decide) rfl (fun ls hl => ?_)
          refine lv_goto (tgt := 4) hx hb dX8_nextFrost_76 (by decide) ?_
          exact ih (i + 1) none (by omega) (by first | exact hw | (intro k h; cases h; omega)) eS _ _ ls hP hD hS (lv_sub hl [3, 4, 0, 1] rfl)
        · have hl : lv_has ls 5 [(4, .int 0), (0, .ref h), (1, .ref ra), (3, .int (nI i)), (2, .int (nI k_2))] := hl
          have hk_2 := hw k_2 rfl
          have eS := eS.trans (oe_s rfl)
          refine lv_iload_n hx hb dX8_nextFrost_71 rfl (lv_at hl 4 rfl) ?_
          refine lv_istore_n (lv' := [(2, .int (nI k_2)), (4, .int 0), (0, .ref h), (1, .ref ra), (3, .int (nI i))]) hx hb dX8_nextFrost_72 rfl hl (by decide) rfl (fun ls hl => ?_)
          refine lv_iinc (v := (nI (i + 1))) (lv' := [(3, .int (nI (i + 1))), (2, .int (nI k_2)), (4, .int 0), (0, .ref h), (1, .ref ra)]) hx hb dX8_nextFrost_73 hl (k := 4) rfl (nI_add i 1) (by decide) rfl (fun ls hl => ?_)
          refine lv_goto (tgt := 4) hx hb dX8_nextFrost_76 (by decide) ?_
          exact ih (i + 1) (some k_2) (by omega) (by first | exact hw | (intro k h; cases h; omega)) eS _ _ ls hP hD hS (lv_sub hl [3, 4, 0, 1] rfl)
      · have eS := eS.trans (if_pos c_19)
        refine lv_aload_n hx hb dX8_nextFrost_22 rfl (lv_at hl 1 rfl) ?_
        refine lv_iload_n hx hb dX8_nextFrost_23 rfl (lv_at hl 2 rfl) ?_
        refine lv_iconst (v := 5) hx hb dX8_nextFrost_24 (by decide) ?_
        refine k_goI (k_runS (rest := []) (As := [.ref ra, .int (nI i), .int 5]) hx hb hml hown hts hK hP hD hS hA hE hl.1 (c_X8_of l G kk ra f i 5 (by omega)) sl_X8_44 ⟨Nat.le_of_ble_eq_true rfl, Nat.le_of_ble_eq_true rfl, rfl, rfl⟩ [2] rfl rfl ⟨Nat.zero_le _, Nat.zero_le _⟩ rfl (Nat.le_of_ble_eq_true rfl) dX8_nextFrost_25) hP hD hS hA [2] rfl ads1 (fun H locs hP hD hS => ?_)
        replace hP : va_P G vwCl ([(h, .inr (8, moF b q)), ((b 7), .inl (kk 0, 6, .inl jb)), (ra, .inl (kk 0, 64, .inl f))]) H := hP
        replace hD : va_D A ([(h, .inr (8, moF b q)), ((b 7), .inl (kk 0, 6, .inl jb)), (ra, .inl (kk 0, 64, .inl f))]) := hD
        refine lv_aload_n hx hb dX8_nextFrost_28 rfl (lv_at hl 1 rfl) ?_
        refine lv_bipush (v := 14) hx hb dX8_nextFrost_29 (by decide) ?_
        refine r_iald hx hb hK hP 2 rfl 14 rfl (by decide) (by decide) dX8_nextFrost_31 ?_
        refine lv_icmp_lt (tgt := 39) hx hb dX8_nextFrost_32 (by decide) (fun c_32 => ?_) (fun c_32 => ?_)
        · have eS := eS.trans (if_pos c_32)
          refine lv_iconst (v := 0) hx hb dX8_nextFrost_39 (by decide) ?_
          refine lv_istore (lv' := [(4, .int 0), (0, .ref h), (1, .ref ra), (3, .int (nI i)), (2, .int (ob w))]) hx hb dX8_nextFrost_40 hl (by decide) rfl (fun ls hl => ?_)
          refine lv_iload hx hb dX8_nextFrost_42 (lv_at hl 0 rfl) ?_
          refine lv_if_eq (tgt := 71) hx hb dX8_nextFrost_44 (by decide) (fun c_44 => ?_) (fun c_44 => absurd (by decide) c_44)
          rcases opt_or w with rfl | ⟨k_3, rfl⟩
          · have hl : lv_has ls 5 [(4, .int 0), (0, .ref h), (1, .ref ra), (3, .int (nI i)), (2, .int (-1))] := hl
            have eS := eS.trans (oe_n rfl)
            refine lv_iload_n hx hb dX8_nextFrost_71 rfl (lv_at hl 4 rfl) ?_
            refine lv_istore_n (lv' := [(2, .int (-1)), (4, .int 0), (0, .ref h), (1, .ref ra), (3, .int (nI i))]) hx hb dX8_nextFrost_72 rfl hl (by decide) rfl (fun ls hl => ?_)
            refine lv_iinc (v := (nI (i + 1))) (lv' := [(3, .int (nI (i + 1))), (2, .int (-1)), (4, .int 0), (0, .ref h), (1, .ref ra)]) hx hb dX8_nextFrost_73 hl (k := 4) rfl (nI_add i 1) (by decide) rfl (fun ls hl => ?_)
            refine lv_goto (tgt := 4) hx hb dX8_nextFrost_76 (by decide) ?_
            exact ih (i + 1) none (by omega) (by first | exact hw | (intro k h; cases h; omega)) eS _ _ ls hP hD hS (lv_sub hl [3, 4, 0, 1] rfl)
          · have hl : lv_has ls 5 [(4, .int 0), (0, .ref h), (1, .ref ra), (3, .int (nI i)), (2, .int (nI k_3))] := hl
            have hk_3 := hw k_3 rfl
            have eS := eS.trans (oe_s rfl)
            refine lv_iload_n hx hb dX8_nextFrost_71 rfl (lv_at hl 4 rfl) ?_
            refine lv_istore_n (lv' := [(2, .int (nI k_3)), (4, .int 0), (0, .ref h), (1, .ref ra), (3, .int (nI i))]) hx hb dX8_nextFrost_72 rfl hl (by decide) rfl (fun ls hl => ?_)
            refine lv_iinc (v := (nI (i + 1))) (lv' := [(3, .int (nI (i + 1))), (2, .int (nI k_3)), (4, .int 0), (0, .ref h), (1, .ref ra)]) hx hb dX8_nextFrost_73 hl (k := 4) rfl (nI_add i 1) (by decide) rfl (fun ls hl => ?_)
            refine lv_goto (tgt := 4) hx hb dX8_nextFrost_76 (by decide) ?_
            exact ih (i + 1) (some k_3) (by omega) (by first | exact hw | (intro k h; cases h; omega)) eS _ _ ls hP hD hS (lv_sub hl [3, 4, 0, 1] rfl)
        · have eS := eS.trans (if_neg c_32)
          refine lv_iconst (v := 1) hx hb dX8_nextFrost_35 (by decide) ?_
          refine lv_goto (tgt := 40) hx hb dX8_nextFrost_36 (by decide) ?_
          refine lv_istore (lv' := [(4, .int 1), (0, .ref h), (1, .ref ra), (3, .int (nI i)), (2, .int (ob w))]) hx hb dX8_nextFrost_40 hl (by decide) rfl (fun ls hl => ?_)
          refine lv_iload hx hb dX8_nextFrost_42 (lv_at hl 0 rfl) ?_
          refine lv_if_eq (tgt := 71) hx hb dX8_nextFrost_44 (by decide) (fun c_44 => absurd c_44 (by decide)) (fun c_44 => ?_)
          rcases opt_or w with rfl | ⟨k_4, rfl⟩
          · have hl : lv_has ls 5 [(4, .int 1), (0, .ref h), (1, .ref ra), (3, .int (nI i)), (2, .int (-1))] := hl
            have eS := eS.trans (oe_n rfl)
            refine lv_iload_n hx hb dX8_nextFrost_47 rfl (lv_at hl 4 rfl) ?_
            refine lv_iconst (v := (-1)) hx hb dX8_nextFrost_48 (by decide) ?_
            refine lv_icmp_eq (tgt := 67) hx hb dX8_nextFrost_49 (by decide) (fun c_49 => ?_) (fun c_49 => absurd (by decide) c_49)
            refine lv_iload_n hx hb dX8_nextFrost_67 rfl (lv_at hl 3 rfl) ?_
            refine lv_goto (tgt := 72) hx hb dX8_nextFrost_68 (by decide) ?_
            refine lv_istore_n (lv' := [(2, .int (nI i)), (4, .int 1), (0, .ref h), (1, .ref ra), (3, .int (nI i))]) hx hb dX8_nextFrost_72 rfl hl (by decide) rfl (fun ls hl => ?_)
            refine lv_iinc (v := (nI (i + 1))) (lv' := [(3, .int (nI (i + 1))), (2, .int (nI i)), (4, .int 1), (0, .ref h), (1, .ref ra)]) hx hb dX8_nextFrost_73 hl (k := 4) rfl (nI_add i 1) (by decide) rfl (fun ls hl => ?_)
            refine lv_goto (tgt := 4) hx hb dX8_nextFrost_76 (by decide) ?_
            exact ih (i + 1) (some i) (by omega) (by first | exact hw | (intro k h; cases h; omega)) eS _ _ ls hP hD hS (lv_sub hl [3, 4, 0, 1] rfl)
          · have hl : lv_has ls 5 [(4, .int 1), (0, .ref h), (1, .ref ra), (3, .int (nI i)), (2, .int (nI k_4))] := hl
            have hk_4 := hw k_4 rfl
            have eS := eS.trans (oe_s rfl)
            refine lv_iload_n hx hb dX8_nextFrost_47 rfl (lv_at hl 4 rfl) ?_
            refine lv_iconst (v := (-1)) hx hb dX8_nextFrost_48 (by decide) ?_
            refine lv_icmp_eq (tgt := 67) hx hb dX8_nextFrost_49 (by decide) (fun c_49 => absurd c_49 (nI_nm1 (by omega))) (fun c_49 => ?_)
            refine lv_aload_n hx hb dX8_nextFrost_52 rfl (lv_at hl 2 rfl) ?_
            refine lv_iload_n hx hb dX8_nextFrost_53 rfl (lv_at hl 3 rfl) ?_
            refine lv_iconst (v := 5) hx hb dX8_nextFrost_54 (by decide) ?_
            refine k_goI (k_runS (rest := []) (As := [.ref ra, .int (nI i), .int 5]) hx hb hml hown hts hK hP hD hS hA hE hl.1 (c_X8_of l G kk ra f i 5 (by omega)) sl_X8_44 ⟨Nat.le_of_ble_eq_true rfl, Nat.le_of_ble_eq_true rfl, rfl, rfl⟩ [2] rfl rfl ⟨Nat.zero_le _, Nat.zero_le _⟩ rfl (Nat.le_of_ble_eq_true rfl) dX8_nextFrost_55) hP hD hS hA [2] rfl ads1 (fun H locs hP hD hS => ?_)
            replace hP : va_P G vwCl ([(h, .inr (8, moF b q)), ((b 7), .inl (kk 0, 6, .inl jb)), (ra, .inl (kk 0, 64, .inl f))]) H := hP
            replace hD : va_D A ([(h, .inr (8, moF b q)), ((b 7), .inl (kk 0, 6, .inl jb)), (ra, .inl (kk 0, 64, .inl f))]) := hD
            refine lv_aload_n hx hb dX8_nextFrost_58 rfl (lv_at hl 2 rfl) ?_
            refine lv_iload_n hx hb dX8_nextFrost_59 rfl (lv_at hl 4 rfl) ?_
            refine lv_iconst (v := 5) hx hb dX8_nextFrost_60 (by decide) ?_
            refine k_goI (k_runS (rest := [.int (sX8_of f i 5)]) (As := [.ref ra, .int (nI k_4), .int 5]) hx hb hml hown hts hK hP hD hS hA hE hl.1 (c_X8_of l G kk ra f k_4 5 (by omega)) sl_X8_44 ⟨Nat.le_of_ble_eq_true rfl, Nat.le_of_ble_eq_true rfl, rfl, rfl⟩ [2] rfl rfl ⟨Nat.zero_le _, Nat.zero_le _⟩ rfl (Nat.le_of_ble_eq_true rfl) dX8_nextFrost_61) hP hD hS hA [2] rfl ads1 (fun H locs hP hD hS => ?_)
            replace hP : va_P G vwCl ([(h, .inr (8, moF b q)), ((b 7), .inl (kk 0, 6, .inl jb)), (ra, .inl (kk 0, 64, .inl f))]) H := hP
            replace hD : va_D A ([(h, .inr (8, moF b q)), ((b 7), .inl (kk 0, 6, .inl jb)), (ra, .inl (kk 0, 64, .inl f))]) := hD
            refine lv_icmp_le (tgt := 71) hx hb dX8_nextFrost_64 (by decide) (fun c_64 => ?_) (fun c_64 => ?_)
            · have eS := eS.trans (if_pos c_64)
              refine lv_iload_n hx hb dX8_nextFrost_71 rfl (lv_at hl 4 rfl) ?_
              refine lv_istore_n (lv' := [(2, .int (nI k_4)), (4, .int 1), (0, .ref h), (1, .ref ra), (3, .int (nI i))]) hx hb dX8_nextFrost_72 rfl hl (by decide) rfl (fun ls hl => ?_)
              refine lv_iinc (v := (nI (i + 1))) (lv' := [(3, .int (nI (i + 1))), (2, .int (nI k_4)), (4, .int 1), (0, .ref h), (1, .ref ra)]) hx hb dX8_nextFrost_73 hl (k := 4) rfl (nI_add i 1) (by decide) rfl (fun ls hl => ?_)
              refine lv_goto (tgt := 4) hx hb dX8_nextFrost_76 (by decide) ?_
              exact ih (i + 1) (some k_4) (by omega) (by first | exact hw | (intro k h; cases h; omega)) eS _ _ ls hP hD hS (lv_sub hl [3, 4, 0, 1] rfl)
            · have eS := eS.trans (if_neg c_64)
              refine lv_iload_n hx hb dX8_nextFrost_67 rfl (lv_at hl 3 rfl) ?_
              refine lv_goto (tgt := 72) hx hb dX8_nextFrost_68 (by decide) ?_
              refine lv_istore_n (lv' := [(2, .int (nI i)), (4, .int 1), (0, .ref h), (1, .ref ra), (3, .int (nI i))]) hx hb dX8_nextFrost_72 rfl hl (by decide) rfl (fun ls hl => ?_)
              refine lv_iinc (v := (nI (i + 1))) (lv' := [(3, .int (nI (i + 1))), (2, .int (nI i)), (4, .int 1), (0, .ref h), (1, .ref ra)]) hx hb dX8_nextFrost_73 hl (k := 4) rfl (nI_add i 1) (by decide) rfl (fun ls hl => ?_)
              refine lv_goto (tgt := 4) hx hb dX8_nextFrost_76 (by decide) ?_
              exact ih (i + 1) (some i) (by omega) (by first | exact hw | (intro k h; cases h; omega)) eS _ _ ls hP hD hS (lv_sub hl [3, 4, 0, 1] rfl)
  exact L_5 n 0 none (Nat.zero_add _) (fun k h => by cases h) eS _ _ ls hP hD hS (lv_sub hl [2, 3, 0, 1] rfl)
