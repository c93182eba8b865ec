theorem r_cast {p : Program} {l : Launch} {e : Env} {R : Room} {s : State} {m : MethodId} {args : Array Value} {below : List Frame} {meth : Method} {c : Code} {H : Heap} {locs : List Loc} {cells slots : Nat} {Q : State → Prop} {cc : ByteArray} {pc : Nat} {ls : Array Slot} {rest : List Value} {G : va_G} {kk : Nat → ClassId} {A : Nat → Prop} {ws : va_W} {a n : Nat} {f : Nat → Int32} {i x : Int32} {H0 : Heap} (hx : p.tables.exec = Jvm.exec) (hb : c.code = cc) (hK : va_K G vwCl (TYS kk) s) (hP : va_P G vwCl ws H) (hD : va_D A ws) (hS : va_S A H0 H locs) (q0 : Nat) (ha : ws[q0]? = some (a, .inl (kk 1, n, .inl f))) (k : Nat) (e1 : i = nI k) (h : k < n) (hn : n < 2 ^ 31) (hz : vp_nar .char x = x) (hdg : decode cc pc = .ok (.castore, 1))
    (kk1 : ∀ (H1 : Heap) (locs1 : List Loc), va_P G vwCl (ws.set q0 (a, .inl (kk 1, n, .inl (upd f k x)))) H1 → va_D A (ws.set q0 (a, .inl (kk 1, n, .inl (upd f k x)))) → va_S A H0 H1 locs1 → W p l e R s m args below meth c H1 locs1 cells slots Q (F0 m (pc + 1) ls rest)) : W p l e R s m args below meth c H locs cells slots Q (F0 m pc ls (.int x :: .int i :: .ref a :: rest)) :=
  va_cast hx hb hK hP hD hS q0 1 ha rfl (ix_in e1 h hn) hdg (by rw [ix_cl e1 h hn, hz]; exact kk1)
def sX6_isFull (q : Nat → Int32) (sg : Nat → Int32) : Int32 :=
  (if (q 1) < (nI 120) then 0 else 1)
set_option maxRecDepth 100000 in
set_option maxHeartbeats 4000000 in
theorem c_X6_isFull (l : Launch) (G : va_G) (kk : Nat → ClassId) (h : Nat) (sa : Nat) (q : Nat → Int32) (sg : Nat → Int32)  : CC l yX6_isFull cX6_isFull 1 (some .boolean) (rmO 0 0) [.ref h] G kk ([(h, .inr (6, txF sa q)), (sa, .inl (kk 1, 120, .inl sg))]) (QI G kk ([(h, .inr (6, txF sa q)), (sa, .inl (kk 1, 120, .inl sg))]) (sX6_isFull q sg)) := by
  refine cc_start (by decide +kernel) (Nat.le_of_ble_eq_true rfl) ?_
  intro p e s m below meth c A ls hx hb hr hml hown hts hlocks hA hE hK hP hD hS hl
  have hown : s.vm.findClass RX6 = some m.cls := hown
  have hl : lv_has ls 1 [(0, .ref h)] := hl
  have eS : sX6_isFull q sg = sX6_isFull q sg := rfl
  refine lv_aload_n hx hb dX6_isFull_0 rfl (lv_at hl 0 rfl) ?_
  refine r_get (v := .int (q 1)) hx hb hts hown hK hP fl_X6_15 0 rfl rfl dX6_isFull_1 ?_
  refine lv_aload_n hx hb dX6_isFull_4 rfl (lv_at hl 0 rfl) ?_
  refine r_get (v := .ref sa) hx hb hts hown hK hP fl_X6_9 0 rfl rfl dX6_isFull_5 ?_
  refine r_alen (t0 := 1) hx hb hK hP 1 rfl rfl dX6_isFull_8 ?_
  refine lv_icmp_lt (tgt := 16) hx hb dX6_isFull_9 (by decide) (fun c_9 => ?_) (fun c_9 => ?_)
  · have eS := eS.trans (if_pos c_9)
    refine lv_iconst (v := 0) hx hb dX6_isFull_16 (by decide) ?_
    exact fin_z hx hb hr hlocks hK hP hD hS eS rfl dX6_isFull_17
  · have eS := eS.trans (if_neg c_9)
    refine lv_iconst (v := 1) hx hb dX6_isFull_12 (by decide) ?_
    refine lv_goto (tgt := 17) hx hb dX6_isFull_13 (by decide) ?_
    exact fin_z hx hb hr hlocks hK hP hD hS eS rfl dX6_isFull_17
def sX6_lengthen (q : Nat → Int32) (sg : Nat → Int32) (x : Int32) : Int32 × (Nat → Int32) × (Nat → Int32) :=
  (if (q 1) < 0 then ((q 1), q, sg) else (if (nI 120) ≤ (q 1) then ((q 1), q, sg) else (((q 1) + 1), (upd q 1 ((q 1) + 1)), (upd sg ((q 1).toNatClampNeg) ((x.toUInt32 % 65536).toInt32)))))
set_option maxRecDepth 100000 in
set_option maxHeartbeats 4000000 in
theorem c_X6_lengthen (l : Launch) (G : va_G) (kk : Nat → ClassId) (h : Nat) (sa : Nat) (q : Nat → Int32) (sg : Nat → Int32) (x : Int32)  : CC l yX6_lengthen cX6_lengthen 2 (some .int) (rmO 0 0) [.ref h, .int x] G kk ([(h, .inr (6, txF sa q)), (sa, .inl (kk 1, 120, .inl sg))]) (QI G kk ([(h, .inr (6, txF sa ((sX6_lengthen q sg x).2.1))), (sa, .inl (kk 1, 120, .inl ((sX6_lengthen q sg x).2.2)))]) ((sX6_lengthen q sg x).1)) := by
  refine cc_start (by decide +kernel) (Nat.le_of_ble_eq_true rfl) ?_
  intro p e s m below meth c A ls hx hb hr hml hown hts hlocks hA hE hK hP hD hS hl
  have hown : s.vm.findClass RX6 = some m.cls := hown
  have hl : lv_has ls 2 [(0, .ref h), (1, .int x)] := hl
  have eS : sX6_lengthen q sg x = sX6_lengthen q sg x := rfl
  refine lv_aload_n hx hb dX6_lengthen_0 rfl (lv_at hl 0 rfl) ?_
  refine r_get (v := .int (q 1)) hx hb hts hown hK hP fl_X6_15 0 rfl rfl dX6_lengthen_1 ?_
  refine lv_if_lt (tgt := 40) hx hb dX6_lengthen_4 (by decide) (fun c_4 => ?_) (fun c_4 => ?_)
  · have eS := eS.trans (if_pos c_4)
    refine lv_aload_n hx hb dX6_lengthen_40 rfl (lv_at hl 0 rfl) ?_
    refine r_get (v := .int (q 1)) hx hb hts hown hK hP fl_X6_15 0 rfl rfl dX6_lengthen_41 ?_
    exact fin_i hx hb hr hlocks hK (vP_eq (congrArg (fun z : Int32 × (Nat → Int32) × (Nat → Int32) => ([(h, .inr (6, txF sa z.2.1)), (sa, .inl (kk 1, 120, .inl z.2.2))] : va_W)) eS.symm) hP) (vD_eq (congrArg (fun z : Int32 × (Nat → Int32) × (Nat → Int32) => ([(h, .inr (6, txF sa z.2.1)), (sa, .inl (kk 1, 120, .inl z.2.2))] : va_W)) eS.symm) hD) hS (congrArg (fun z : Int32 × (Nat → Int32) × (Nat → Int32) => z.1) eS) dX6_lengthen_44
  · have eS := eS.trans (if_neg c_4)
    refine lv_aload_n hx hb dX6_lengthen_7 rfl (lv_at hl 0 rfl) ?_
    refine r_get (v := .int (q 1)) hx hb hts hown hK hP fl_X6_15 0 rfl rfl dX6_lengthen_8 ?_
    refine lv_aload_n hx hb dX6_lengthen_11 rfl (lv_at hl 0 rfl) ?_
    refine r_get (v := .ref sa) hx hb hts hown hK hP fl_X6_9 0 rfl rfl dX6_lengthen_12 ?_
    refine r_alen (t0 := 1) hx hb hK hP 1 rfl rfl dX6_lengthen_15 ?_
    refine lv_icmp_ge (tgt := 40) hx hb dX6_lengthen_16 (by decide) (fun c_16 => ?_) (fun c_16 => ?_)
    · have eS := eS.trans (if_pos c_16)
      refine lv_aload_n hx hb dX6_lengthen_40 rfl (lv_at hl 0 rfl) ?_
      refine r_get (v := .int (q 1)) hx hb hts hown hK hP fl_X6_15 0 rfl rfl dX6_lengthen_41 ?_
      exact fin_i hx hb hr hlocks hK (vP_eq (congrArg (fun z : Int32 × (Nat → Int32) × (Nat → Int32) => ([(h, .inr (6, txF sa z.2.1)), (sa, .inl (kk 1, 120, .inl z.2.2))] : va_W)) eS.symm) hP) (vD_eq (congrArg (fun z : Int32 × (Nat → Int32) × (Nat → Int32) => ([(h, .inr (6, txF sa z.2.1)), (sa, .inl (kk 1, 120, .inl z.2.2))] : va_W)) eS.symm) hD) hS (congrArg (fun z : Int32 × (Nat → Int32) × (Nat → Int32) => z.1) eS) dX6_lengthen_44
    · have eS := eS.trans (if_neg c_16)
      have e1 := tc_e c_4
      have e2 := tc_l c_4 c_16 (by decide)
      refine lv_aload_n hx hb dX6_lengthen_19 rfl (lv_at hl 0 rfl) ?_
      refine r_get (v := .ref sa) hx hb hts hown hK hP fl_X6_9 0 rfl rfl dX6_lengthen_20 ?_
      refine lv_aload_n hx hb dX6_lengthen_23 rfl (lv_at hl 0 rfl) ?_
      refine r_get (v := .int (q 1)) hx hb hts hown hK hP fl_X6_15 0 rfl rfl dX6_lengthen_24 ?_
      refine top_eq (y := (nI ((q 1).toNatClampNeg))) (e1) ?_
      refine lv_iload_n hx hb dX6_lengthen_27 rfl (lv_at hl 1 rfl) ?_
      refine lv_i2c (v := ((x.toUInt32 % 65536).toInt32)) hx hb dX6_lengthen_28 rfl ?_
      refine r_cast hx hb hK hP hD hS 1 rfl ((q 1).toNatClampNeg) rfl (by omega) (by decide) (pk_vc _) dX6_lengthen_29 (fun H locs hP hD hS => ?_)
      replace hP : va_P G vwCl ([(h, .inr (6, txF sa q)), (sa, .inl (kk 1, 120, .inl (upd sg ((q 1).toNatClampNeg) ((x.toUInt32 % 65536).toInt32))))]) H := hP
      replace hD : va_D A ([(h, .inr (6, txF sa q)), (sa, .inl (kk 1, 120, .inl (upd sg ((q 1).toNatClampNeg) ((x.toUInt32 % 65536).toInt32))))]) := hD
      refine lv_aload_n hx hb dX6_lengthen_30 rfl (lv_at hl 0 rfl) ?_
      refine lv_dup hx hb dX6_lengthen_31 rfl ?_
      refine r_get (v := .int (q 1)) hx hb hts hown hK hP fl_X6_15 0 rfl rfl dX6_lengthen_32 ?_
      refine lv_iconst (v := 1) hx hb dX6_lengthen_35 (by decide) ?_
      refine lv_iadd hx hb dX6_lengthen_36 ?_
      refine r_put hx hb hts hown hK hP hD hS fl_X6_15 fw_6_1 0 rfl rfl rfl (Nat.le_of_ble_eq_true rfl) dX6_lengthen_37 (fun H locs hP hD hS => ?_)
      replace hP : va_P G vwCl ([(h, .inr (6, txF sa (upd q 1 ((q 1) + 1)))), (sa, .inl (kk 1, 120, .inl (upd sg ((q 1).toNatClampNeg) ((x.toUInt32 % 65536).toInt32))))]) H := hP
      replace hD : va_D A ([(h, .inr (6, txF sa (upd q 1 ((q 1) + 1)))), (sa, .inl (kk 1, 120, .inl (upd sg ((q 1).toNatClampNeg) ((x.toUInt32 % 65536).toInt32))))]) := hD
      refine lv_aload_n hx hb dX6_lengthen_40 rfl (lv_at hl 0 rfl) ?_
      refine r_get (v := .int ((q 1) + 1)) hx hb hts hown hK hP fl_X6_15 0 rfl rfl dX6_lengthen_41 ?_
      exact fin_i hx hb hr hlocks hK (vP_eq (congrArg (fun z : Int32 × (Nat → Int32) × (Nat → Int32) => ([(h, .inr (6, txF sa z.2.1)), (sa, .inl (kk 1, 120, .inl z.2.2))] : va_W)) eS.symm) hP) (vD_eq (congrArg (fun z : Int32 × (Nat → Int32) × (Nat → Int32) => ([(h, .inr (6, txF sa z.2.1)), (sa, .inl (kk 1, 120, .inl z.2.2))] : va_W)) eS.symm) hD) hS (congrArg (fun z : Int32 × (Nat → Int32) × (Nat → Int32) => z.1) eS) dX6_lengthen_44
def sX6_empty (q : Nat → Int32) : Int32 × (Nat → Int32) :=
  ((q 1), (upd q 1 0))
set_option maxRecDepth 100000 in
set_option maxHeartbeats 4000000 in
theorem c_X6_empty (l : Launch) (G : va_G) (kk : Nat → ClassId) (h : Nat) (sa : Nat) (q : Nat → Int32)  : CC l yX6_empty cX6_empty 2 (some .int) (rmO 0 0) [.ref h] G kk ([(h, .inr (6, txF sa q))]) (QI G kk ([(h, .inr (6, txF sa ((sX6_empty q).2)))]) ((sX6_empty q).1)) := by
  refine cc_start (by decide +kernel) (Nat.le_of_ble_eq_true rfl) ?_
  intro p e s m below meth c A ls hx hb hr hml hown hts hlocks hA hE hK hP hD hS hl
  have hown : s.vm.findClass RX6 = some m.cls := hown
  have hl : lv_has ls 2 [(0, .ref h)] := hl
  have eS : sX6_empty q = sX6_empty q := rfl
  refine lv_aload_n hx hb dX6_empty_0 rfl (lv_at hl 0 rfl) ?_
  refine r_get (v := .int (q 1)) hx hb hts hown hK hP fl_X6_15 0 rfl rfl dX6_empty_1 ?_
  refine lv_istore_n (lv' := [(1, .int (q 1)), (0, .ref h)]) hx hb dX6_empty_4 rfl hl (by decide) rfl (fun ls hl => ?_)
  refine lv_aload_n hx hb dX6_empty_5 rfl (lv_at hl 1 rfl) ?_
  refine lv_iconst (v := 0) hx hb dX6_empty_6 (by decide) ?_
  refine r_put hx hb hts hown hK hP hD hS fl_X6_15 fw_6_1 0 rfl rfl rfl (Nat.le_of_ble_eq_true rfl) dX6_empty_7 (fun H locs hP hD hS => ?_)
  replace hP : va_P G vwCl ([(h, .inr (6, txF sa (upd q 1 0)))]) H := hP
  replace hD : va_D A ([(h, .inr (6, txF sa (upd q 1 0)))]) := hD
  refine lv_iload_n hx hb dX6_empty_10 rfl (lv_at hl 0 rfl) ?_
  exact fin_i hx hb hr hlocks hK (vP_eq (congrArg (fun z : Int32 × (Nat → Int32) => ([(h, .inr (6, txF sa z.2))] : va_W)) eS.symm) hP) (vD_eq (congrArg (fun z : Int32 × (Nat → Int32) => ([(h, .inr (6, txF sa z.2))] : va_W)) eS.symm) hD) hS (congrArg (fun z : Int32 × (Nat → Int32) => z.1) eS) dX6_empty_11
def sX6_signAt (q : Nat → Int32) (sg : Nat → Int32) (x : Int32) : Int32 :=
  (if x < 0 then (-1) else (if (q 1) ≤ x then (-1) else (if (nI 120) ≤ x then (-1) else (sg x.toNatClampNeg))))
set_option maxRecDepth 100000 in
set_option maxHeartbeats 4000000 in
theorem c_X6_signAt (l : Launch) (G : va_G) (kk : Nat → ClassId) (h : Nat) (sa : Nat) (q : Nat → Int32) (sg : Nat → Int32) (x : Int32)  : CC l yX6_signAt cX6_signAt 2 (some .int) (rmO 0 0) [.ref h, .int x] G kk ([(h, .inr (6, txF sa q)), (sa, .inl (kk 1, 120, .inl sg))]) (QI G kk ([(h, .inr (6, txF sa q)), (sa, .inl (kk 1, 120, .inl sg))]) (sX6_signAt q sg x)) := by
  refine cc_start (by decide +kernel) (Nat.le_of_ble_eq_true rfl) ?_
  intro p e s m below meth c A ls hx hb hr hml hown hts hlocks hA hE hK hP hD hS hl
  have hown : s.vm.findClass RX6 = some m.cls := hown
  have hl : lv_has ls 2 [(0, .ref h), (1, .int x)] := hl
  have eS : sX6_signAt q sg x = sX6_signAt q sg x := rfl
  refine lv_iload_n hx hb dX6_signAt_0 rfl (lv_at hl 1 rfl) ?_
  refine lv_if_lt (tgt := 28) hx hb dX6_signAt_1 (by decide) (fun c_1 => ?_) (fun c_1 => ?_)
  · have eS := eS.trans (if_pos c_1)
    refine lv_iconst (v := (-1)) hx hb dX6_signAt_28 (by decide) ?_
    exact fin_i hx hb hr hlocks hK hP hD hS eS dX6_signAt_29
  · have eS := eS.trans (if_neg c_1)
    refine lv_iload_n hx hb dX6_signAt_4 rfl (lv_at hl 1 rfl) ?_
    refine lv_aload_n hx hb dX6_signAt_5 rfl (lv_at hl 0 rfl) ?_
    refine r_get (v := .int (q 1)) hx hb hts hown hK hP fl_X6_15 0 rfl rfl dX6_signAt_6 ?_
    refine lv_icmp_ge (tgt := 28) hx hb dX6_signAt_9 (by decide) (fun c_9 => ?_) (fun c_9 => ?_)
    · have eS := eS.trans (if_pos c_9)
      refine lv_iconst (v := (-1)) hx hb dX6_signAt_28 (by decide) ?_
      exact fin_i hx hb hr hlocks hK hP hD hS eS dX6_signAt_29
    · have eS := eS.trans (if_neg c_9)
      refine lv_iload_n hx hb dX6_signAt_12 rfl (lv_at hl 1 rfl) ?_
      refine lv_aload_n hx hb dX6_signAt_13 rfl (lv_at hl 0 rfl) ?_
      refine r_get (v := .ref sa) hx hb hts hown hK hP fl_X6_9 0 rfl rfl dX6_signAt_14 ?_
      refine r_alen (t0 := 1) hx hb hK hP 1 rfl rfl dX6_signAt_17 ?_
      refine lv_icmp_ge (tgt := 28) hx hb dX6_signAt_18 (by decide) (fun c_18 => ?_) (fun c_18 => ?_)
      · have eS := eS.trans (if_pos c_18)
        refine lv_iconst (v := (-1)) hx hb dX6_signAt_28 (by decide) ?_
        exact fin_i hx hb hr hlocks hK hP hD hS eS dX6_signAt_29
      · have eS := eS.trans (if_neg c_18)
        have e1 := tc_e c_1
        have e2 := tc_l c_1 c_18 (by decide)
        refine lv_aload_n hx hb dX6_signAt_21 rfl (lv_at hl 0 rfl) ?_
        refine r_get (v := .ref sa) hx hb hts hown hK hP fl_X6_9 0 rfl rfl dX6_signAt_22 ?_
        refine lv_iload_n hx hb dX6_signAt_25 rfl (lv_at hl 1 rfl) ?_
        refine top_eq (y := (nI x.toNatClampNeg)) (e1) ?_
        refine r_cald hx hb hK hP 1 rfl x.toNatClampNeg rfl (by omega) (by decide) dX6_signAt_26 ?_
        exact fin_i hx hb hr hlocks hK hP hD hS eS dX6_signAt_27
def sX1_moveIf (q : Nat → Int32) (o : Int32) : (Nat → Int32) :=
  (if o = 0 then (upd q 2 1) else (if (q 2) = 0 then (upd q 1 ((q 1) + 1)) else (upd q 2 1)))
set_option maxRecDepth 100000 in
set_option maxHeartbeats 4000000 in
theorem c_X1_moveIf (l : Launch) (G : va_G) (kk : Nat → ClassId) (h : Nat) (t : Nat) (q : Nat → Int32) (o : Int32)  : CC l yX1_moveIf cX1_moveIf 2 none (rmO 0 0) [.ref h, .int o] G kk ([(h, .inr (1, rdF t q))]) (QV G kk ([(h, .inr (1, rdF t (sX1_moveIf q o)))])) := by
  refine cc_start (by decide +kernel) (Nat.le_of_ble_eq_true rfl) ?_
  intro p e s m below meth c A ls hx hb hr hml hown hts hlocks hA hE hK hP hD hS hl
  have hown : s.vm.findClass RX1 = some m.cls := hown
  have hl : lv_has ls 2 [(0, .ref h), (1, .int o)] := hl
  have eS : sX1_moveIf q o = sX1_moveIf q o := rfl
  refine lv_iload_n hx hb dX1_moveIf_0 rfl (lv_at hl 1 rfl) ?_
  refine lv_if_eq (tgt := 24) hx hb dX1_moveIf_1 (by decide) (fun c_1 => ?_) (fun c_1 => ?_)
  · have eS := eS.trans (if_pos c_1)
    refine lv_aload_n hx hb dX1_moveIf_24 rfl (lv_at hl 0 rfl) ?_
    refine lv_iconst (v := 1) hx hb dX1_moveIf_25 (by decide) ?_
    refine r_put hx hb hts hown hK hP hD hS fl_X1_25 fw_1_2 0 rfl rfl rfl (Nat.le_of_ble_eq_true rfl) dX1_moveIf_26 (fun H locs hP hD hS => ?_)
    replace hP : va_P G vwCl ([(h, .inr (1, rdF t (upd q 2 1)))]) H := hP
    replace hD : va_D A ([(h, .inr (1, rdF t (upd q 2 1)))]) := hD
    exact fin_v hx hb hr hlocks hK (vP_eq (congrArg (fun z : (Nat → Int32) => ([(h, .inr (1, rdF t z))] : va_W)) eS.symm) hP) (vD_eq (congrArg (fun z : (Nat → Int32) => ([(h, .inr (1, rdF t z))] : va_W)) eS.symm) hD) hS dX1_moveIf_29
  · have eS := eS.trans (if_neg c_1)
    refine lv_aload_n hx hb dX1_moveIf_4 rfl (lv_at hl 0 rfl) ?_
    refine r_get (v := .int (q 2)) hx hb hts hown hK hP fl_X1_25 0 rfl rfl dX1_moveIf_5 ?_
    refine lv_if_ne (tgt := 24) hx hb dX1_moveIf_8 (by decide) (fun c_8 => ?_) (fun c_8 => ?_)
    · have eS := eS.trans (if_neg c_8)
      refine lv_aload_n hx hb dX1_moveIf_24 rfl (lv_at hl 0 rfl) ?_
      refine lv_iconst (v := 1) hx hb dX1_moveIf_25 (by decide) ?_
      refine r_put hx hb hts hown hK hP hD hS fl_X1_25 fw_1_2 0 rfl rfl rfl (Nat.le_of_ble_eq_true rfl) dX1_moveIf_26 (fun H locs hP hD hS => ?_)
      replace hP : va_P G vwCl ([(h, .inr (1, rdF t (upd q 2 1)))]) H := hP
      replace hD : va_D A ([(h, .inr (1, rdF t (upd q 2 1)))]) := hD
      exact fin_v hx hb hr hlocks hK (vP_eq (congrArg (fun z : (Nat → Int32) => ([(h, .inr (1, rdF t z))] : va_W)) eS.symm) hP) (vD_eq (congrArg (fun z : (Nat → Int32) => ([(h, .inr (1, rdF t z))] : va_W)) eS.symm) hD) hS dX1_moveIf_29
    · have eS := eS.trans (if_pos c_8)
      refine lv_aload_n hx hb dX1_moveIf_11 rfl (lv_at hl 0 rfl) ?_
      refine lv_dup hx hb dX1_moveIf_12 rfl ?_
      refine r_get (v := .int (q 1)) hx hb hts hown hK hP fl_X1_29 0 rfl rfl dX1_moveIf_13 ?_
      refine lv_iconst (v := 1) hx hb dX1_moveIf_16 (by decide) ?_
      refine lv_iadd hx hb dX1_moveIf_17 ?_
      refine r_put hx hb hts hown hK hP hD hS fl_X1_29 fw_1_1 0 rfl rfl rfl (Nat.le_of_ble_eq_true rfl) dX1_moveIf_18 (fun H locs hP hD hS => ?_)
      replace hP : va_P G vwCl ([(h, .inr (1, rdF t (upd q 1 ((q 1) + 1))))]) H := hP
      replace hD : va_D A ([(h, .inr (1, rdF t (upd q 1 ((q 1) + 1))))]) := hD
      refine lv_goto (tgt := 29) hx hb dX1_moveIf_21 (by decide) ?_
      exact fin_v hx hb hr hlocks hK (vP_eq (congrArg (fun z : (Nat → Int32) => ([(h, .inr (1, rdF t z))] : va_W)) eS.symm) hP) (vD_eq (congrArg (fun z : (Nat → Int32) => ([(h, .inr (1, rdF t z))] : va_W)) eS.symm) hD) hS dX1_moveIf_29
def sX1_isCommand (x : Int32) : Int32 :=
  (if x = 114 then 1 else (if x = 111 then 1 else (if x = 122 then 1 else (if x = 109 then 1 else (if x = 108 then 1 else 0)))))
set_option maxRecDepth 100000 in
set_option maxHeartbeats 4000000 in
theorem c_X1_isCommand (l : Launch) (G : va_G) (kk : Nat → ClassId) (x : Int32)  : CC l yX1_isCommand cX1_isCommand 1 (some .boolean) (rmO 0 0) [.int x] G kk ([]) (QI G kk ([]) (sX1_isCommand x)) := by
  refine cc_start (by decide +kernel) (Nat.le_of_ble_eq_true rfl) ?_
  intro p e s m below meth c A ls hx hb hr hml hown hts hlocks hA hE hK hP hD hS hl
  have hown : s.vm.findClass RX1 = some m.cls := hown
  have hl : lv_has ls 1 [(0, .int x)] := hl
  have eS : sX1_isCommand x = sX1_isCommand x := rfl
  refine lv_iload_n hx hb dX1_isCommand_0 rfl (lv_at hl 0 rfl) ?_
  refine lv_bipush (v := 114) hx hb dX1_isCommand_1 (by decide) ?_
  refine lv_icmp_eq (tgt := 30) hx hb dX1_isCommand_3 (by decide) (fun c_3 => ?_) (fun c_3 => ?_)
  · have eS := eS.trans (if_pos c_3)
    refine lv_iconst (v := 1) hx hb dX1_isCommand_30 (by decide) ?_
    refine lv_goto (tgt := 35) hx hb dX1_isCommand_31 (by decide) ?_
    exact fin_z hx hb hr hlocks hK hP hD hS eS rfl dX1_isCommand_35
  · have eS := eS.trans (if_neg c_3)
    refine lv_iload_n hx hb dX1_isCommand_6 rfl (lv_at hl 0 rfl) ?_
    refine lv_bipush (v := 111) hx hb dX1_isCommand_7 (by decide) ?_
    refine lv_icmp_eq (tgt := 30) hx hb dX1_isCommand_9 (by decide) (fun c_9 => ?_) (fun c_9 => ?_)
    · have eS := eS.trans (if_pos c_9)
      refine lv_iconst (v := 1) hx hb dX1_isCommand_30 (by decide) ?_
      refine lv_goto (tgt := 35) hx hb dX1_isCommand_31 (by decide) ?_
      exact fin_z hx hb hr hlocks hK hP hD hS eS rfl dX1_isCommand_35
    · have eS := eS.trans (if_neg c_9)
      refine lv_iload_n hx hb dX1_isCommand_12 rfl (lv_at hl 0 rfl) ?_
      refine lv_bipush (v := 122) hx hb dX1_isCommand_13 (by decide) ?_
      refine lv_icmp_eq (tgt := 30) hx hb dX1_isCommand_15 (by decide) (fun c_15 => ?_) (fun c_15 => ?_)
      · have eS := eS.trans (if_pos c_15)
        refine lv_iconst (v := 1) hx hb dX1_isCommand_30 (by decide) ?_
        refine lv_goto (tgt := 35) hx hb dX1_isCommand_31 (by decide) ?_
        exact fin_z hx hb hr hlocks hK hP hD hS eS rfl dX1_isCommand_35
      · have eS := eS.trans (if_neg c_15)
        refine lv_iload_n hx hb dX1_isCommand_18 rfl (lv_at hl 0 rfl) ?_
        refine lv_bipush (v := 109) hx hb dX1_isCommand_19 (by decide) ?_
        refine lv_icmp_eq (tgt := 30) hx hb dX1_isCommand_21 (by decide) (fun c_21 => ?_) (fun c_21 => ?_)
        · have eS := eS.trans (if_pos c_21)
          refine lv_iconst (v := 1) hx hb dX1_isCommand_30 (by decide) ?_
          refine lv_goto (tgt := 35) hx hb dX1_isCommand_31 (by decide) ?_
          exact fin_z hx hb hr hlocks hK hP hD hS eS rfl dX1_isCommand_35
        · have eS := eS.trans (if_neg c_21)
          refine lv_iload_n hx hb dX1_isCommand_24 rfl (lv_at hl 0 rfl) ?_
          refine lv_bipush (v := 108) hx hb dX1_isCommand_25 (by decide) ?_
          refine lv_icmp_ne (tgt := 34) hx hb dX1_isCommand_27 (by decide) (fun c_27 => ?_) (fun c_27 => ?_)
          · have eS := eS.trans (if_neg c_27)
            refine lv_iconst (v := 0) hx hb dX1_isCommand_34 (by decide) ?_
            exact fin_z hx hb hr hlocks hK hP hD hS eS rfl dX1_isCommand_35
          · have eS := eS.trans (if_pos c_27)
            refine lv_iconst (v := 1) hx hb dX1_isCommand_30 (by decide) ?_
            refine lv_goto (tgt := 35) hx hb dX1_isCommand_31 (by decide) ?_
            exact fin_z hx hb hr hlocks hK hP hD hS eS rfl dX1_isCommand_35
def sX1_start_z_1 (q : Nat → Int32) (tq : Nat → Int32) (sg : Nat → Int32) (z_1 : (Nat → Int32)) : (Nat → Int32) :=
  z_1
def sX1_start_z_2 (q : Nat → Int32) (tq : Nat → Int32) (sg : Nat → Int32) (z_2 : (Nat → Int32)) : (Nat → Int32) :=
  z_2
def sX1_start (q : Nat → Int32) (tq : Nat → Int32) (sg : Nat → Int32) : (Nat → Int32) :=
  (if (sX6_signAt tq sg 0) = 77 then (sX1_start_z_2 q tq sg (sX1_moveIf (upd (upd q 1 0) 2 0) 1)) else (sX1_start_z_1 q tq sg (sX1_moveIf (upd (upd q 1 0) 2 0) 0)))
set_option maxRecDepth 100000 in
set_option maxHeartbeats 4000000 in
theorem c_X1_start (l : Launch) (G : va_G) (kk : Nat → ClassId) (h : Nat) (t : Nat) (sa : Nat) (q : Nat → Int32) (tq : Nat → Int32) (sg : Nat → Int32)  : CC l yX1_start cX1_start 1 none (rmO 1 21) [.ref h] G kk ([(h, .inr (1, rdF t q)), (t, .inr (6, txF sa tq)), (sa, .inl (kk 1, 120, .inl sg))]) (QV G kk ([(h, .inr (1, rdF t (sX1_start q tq sg))), (t, .inr (6, txF sa tq)), (sa, .inl (kk 1, 120, .inl sg))])) := by
  refine cc_start (by decide +kernel) (Nat.le_of_ble_eq_true rfl) ?_
  intro p e s m below meth c A ls hx hb hr hml hown hts hlocks hA hE hK hP hD hS hl
  have hown : s.vm.findClass RX1 = some m.cls := hown
  have hl : lv_has ls 1 [(0, .ref h)] := hl
  have eS : sX1_start q tq sg = sX1_start q tq sg := rfl
  refine lv_aload_n hx hb dX1_start_0 rfl (lv_at hl 0 rfl) ?_
  refine lv_iconst (v := 0) hx hb dX1_start_1 (by decide) ?_
  refine r_put hx hb hts hown hK hP hD hS fl_X1_29 fw_1_1 0 rfl rfl rfl (Nat.le_of_ble_eq_true rfl) dX1_start_2 (fun H locs hP hD hS => ?_)
  replace hP : va_P G vwCl ([(h, .inr (1, rdF t (upd q 1 0))), (t, .inr (6, txF sa tq)), (sa, .inl (kk 1, 120, .inl sg))]) H := hP
  replace hD : va_D A ([(h, .inr (1, rdF t (upd q 1 0))), (t, .inr (6, txF sa tq)), (sa, .inl (kk 1, 120, .inl sg))]) := hD
  refine lv_aload_n hx hb dX1_start_5 rfl (lv_at hl 0 rfl) ?_
  refine lv_iconst (v := 0) hx hb dX1_start_6 (by decide) ?_
  refine r_put hx hb hts hown hK hP hD hS fl_X1_25 fw_1_2 0 rfl rfl rfl (Nat.le_of_ble_eq_true rfl) dX1_start_7 (fun H locs hP hD hS => ?_)
  replace hP : va_P G vwCl ([(h, .inr (1, rdF t (upd (upd q 1 0) 2 0))), (t, .inr (6, txF sa tq)), (sa, .inl (kk 1, 120, .inl sg))]) H := hP
  replace hD : va_D A ([(h, .inr (1, rdF t (upd (upd q 1 0) 2 0))), (t, .inr (6, txF sa tq)), (sa, .inl (kk 1, 120, .inl sg))]) := hD
  refine lv_aload_n hx hb dX1_start_10 rfl (lv_at hl 0 rfl) ?_
  refine lv_aload_n hx hb dX1_start_11 rfl (lv_at hl 0 rfl) ?_
  refine r_get (v := .ref t) hx hb hts hown hK hP fl_X1_12 0 rfl rfl dX1_start_12 ?_
  refine lv_iconst (v := 0) hx hb dX1_start_15 (by decide) ?_
  refine k_goI (k_runV (rest := [.ref h]) (As := [.int 0]) hx hb hml hown hts hK hP hD hS hA hE hl.1 (c_X6_signAt l G kk t sa tq sg 0 ) vl_X1_33 rfl rfl rfl ⟨Nat.le_of_ble_eq_true rfl, Nat.le_of_ble_eq_true rfl, rfl, rfl⟩ [1, 2] rfl rfl ⟨Nat.zero_le _, Nat.zero_le _⟩ rfl (Nat.le_of_ble_eq_true rfl) dX1_start_16) hP hD hS hA [1, 2] rfl ads2 (fun H locs hP hD hS => ?_)
  replace hP : va_P G vwCl ([(h, .inr (1, rdF t (upd (upd q 1 0) 2 0))), (t, .inr (6, txF sa tq)), (sa, .inl (kk 1, 120, .inl sg))]) H := hP
  replace hD : va_D A ([(h, .inr (1, rdF t (upd (upd q 1 0) 2 0))), (t, .inr (6, txF sa tq)), (sa, .inl (kk 1, 120, .inl sg))]) := hD
  refine lv_bipush (v := 77) hx hb dX1_start_19 (by decide) ?_
  refine lv_icmp_ne (tgt := 28) hx hb dX1_start_21 (by decide) (fun c_21 => ?_) (fun c_21 => ?_)
  · have eS := eS.trans (if_neg c_21)
    refine lv_iconst (v := 0) hx hb dX1_start_28 (by decide) ?_
    refine k_goV (k_runV (rest := []) (As := [.int 0]) hx hb hml hown hts hK hP hD hS hA hE hl.1 (c_X1_moveIf l G kk h t (upd (upd q 1 0) 2 0) 0 ) vl_X1_37 rfl rfl rfl ⟨Nat.le_of_ble_eq_true rfl, Nat.le_of_ble_eq_true rfl, rfl, rfl⟩ [0] rfl rfl ⟨Nat.zero_le _, Nat.zero_le _⟩ rfl (Nat.le_of_ble_eq_true rfl) dX1_start_29) hP hD hS hA [0] rfl ads1 (fun H locs hP hD hS => ?_)
    replace hP : va_P G vwCl ([(h, .inr (1, rdF t (sX1_moveIf (upd (upd q 1 0) 2 0) 0))), (t, .inr (6, txF sa tq)), (sa, .inl (kk 1, 120, .inl sg))]) H := hP
    replace hD : va_D A ([(h, .inr (1, rdF t (sX1_moveIf (upd (upd q 1 0) 2 0) 0))), (t, .inr (6, txF sa tq)), (sa, .inl (kk 1, 120, .inl sg))]) := hD
    have eS : sX1_start q tq sg = sX1_start_z_1 q tq sg (sX1_moveIf (upd (upd q 1 0) 2 0) 0) := eS
    generalize sX1_moveIf (upd (upd q 1 0) 2 0) 0 = z_1 at hP hD eS ⊢
    exact fin_v hx hb hr hlocks hK (vP_eq (congrArg (fun z : (Nat → Int32) => ([(h, .inr (1, rdF t z)), (t, .inr (6, txF sa tq)), (sa, .inl (kk 1, 120, .inl sg))] : va_W)) eS.symm) hP) (vD_eq (congrArg (fun z : (Nat → Int32) => ([(h, .inr (1, rdF t z)), (t, .inr (6, txF sa tq)), (sa, .inl (kk 1, 120, .inl sg))] : va_W)) eS.symm) hD) hS dX1_start_32
  · have eS := eS.trans (if_pos c_21)
    refine lv_iconst (v := 1) hx hb dX1_start_24 (by decide) ?_
    refine lv_goto (tgt := 29) hx hb dX1_start_25 (by decide) ?_
    refine k_goV (k_runV (rest := []) (As := [.int 1]) hx hb hml hown hts hK hP hD hS hA hE hl.1 (c_X1_moveIf l G kk h t (upd (upd q 1 0) 2 0) 1 ) vl_X1_37 rfl rfl rfl ⟨Nat.le_of_ble_eq_true rfl, Nat.le_of_ble_eq_true rfl, rfl, rfl⟩ [0] rfl rfl ⟨Nat.zero_le _, Nat.zero_le _⟩ rfl (Nat.le_of_ble_eq_true rfl) dX1_start_29) hP hD hS hA [0] rfl ads1 (fun H locs hP hD hS => ?_)
    replace hP : va_P G vwCl ([(h, .inr (1, rdF t (sX1_moveIf (upd (upd q 1 0) 2 0) 1))), (t, .inr (6, txF sa tq)), (sa, .inl (kk 1, 120, .inl sg))]) H := hP
    replace hD : va_D A ([(h, .inr (1, rdF t (sX1_moveIf (upd (upd q 1 0) 2 0) 1))), (t, .inr (6, txF sa tq)), (sa, .inl (kk 1, 120, .inl sg))]) := hD
    have eS : sX1_start q tq sg = sX1_start_z_2 q tq sg (sX1_moveIf (upd (upd q 1 0) 2 0) 1) := eS
    generalize sX1_moveIf (upd (upd q 1 0) 2 0) 1 = z_2 at hP hD eS ⊢
    exact fin_v hx hb hr hlocks hK (vP_eq (congrArg (fun z : (Nat → Int32) => ([(h, .inr (1, rdF t z)), (t, .inr (6, txF sa tq)), (sa, .inl (kk 1, 120, .inl sg))] : va_W)) eS.symm) hP) (vD_eq (congrArg (fun z : (Nat → Int32) => ([(h, .inr (1, rdF t z)), (t, .inr (6, txF sa tq)), (sa, .inl (kk 1, 120, .inl sg))] : va_W)) eS.symm) hD) hS dX1_start_32
def lp_X1_isBegun_9 (x : Int32) (mo : Nat) (lo : Int32) (hi : Int32) : Nat → Nat → Int32 → Int32 → Int32
  | 0, i, a, b => (if hi < a then 0 else (if b < lo then 0 else 1))
  | d + 1, i, a, b => (lp_X1_isBegun_9 x mo lo hi d (i + 1) (a * 10) ((b * 10) + 9))
def sX1_isBegun (x : Int32) (mo : Nat) (lo : Int32) (hi : Int32) : Int32 :=
  (lp_X1_isBegun_9 x mo lo hi mo 0 x x)
set_option maxRecDepth 100000 in
set_option maxHeartbeats 4000000 in
theorem c_X1_isBegun (l : Launch) (G : va_G) (kk : Nat → ClassId) (x : Int32) (mo : Nat) (lo : Int32) (hi : Int32) (hm : mo ≤ 4) : CC l yX1_isBegun cX1_isBegun 7 (some .boolean) (rmO 0 0) [.int x, .int (nI mo), .int lo, .int hi] G kk ([]) (QI G kk ([]) (sX1_isBegun x mo lo hi)) := by
  refine cc_start (by decide +kernel) (Nat.le_of_ble_eq_true rfl) ?_
  intro p e s m below meth c A ls hx hb hr hml hown hts hlocks hA hE hK hP hD hS hl
  have hown : s.vm.findClass RX1 = some m.cls := hown
  have hl : lv_has ls 7 [(0, .int x), (1, .int (nI mo)), (2, .int lo), (3, .int hi)] := hl
  have eS : sX1_isBegun x mo lo hi = sX1_isBegun x mo lo hi := rfl
  refine lv_iload_n hx hb dX1_isBegun_0 rfl (lv_at hl 0 rfl) ?_
  refine lv_istore (lv' := [(4, .int x), (0, .int x), (1, .int (nI mo)), (2, .int lo), (3, .int hi)]) hx hb dX1_isBegun_1 hl (by decide) rfl (fun ls hl => ?_)
  refine lv_iload_n hx hb dX1_isBegun_3 rfl (lv_at hl 1 rfl) ?_
  refine lv_istore (lv' := [(5, .int x), (4, .int x), (0, .int x), (1, .int (nI mo)), (2, .int lo), (3, .int hi)]) hx hb dX1_isBegun_4 hl (by decide) rfl (fun ls hl => ?_)
  refine lv_iconst (v := 0) hx hb dX1_isBegun_6 (by decide) ?_
  refine lv_istore (lv' := [(6, .int 0), (5, .int x), (4, .int x), (0, .int x), (1, .int (nI mo)), (2, .int lo), (3, .int hi)]) hx hb dX1_isBegun_7 hl (by decide) rfl (fun ls hl => ?_)
  have L_1 : ∀ (d : Nat) (i : Nat) (a : Int32) (b : Int32) (hd : i + d = mo) (eS : sX1_isBegun x mo lo hi = lp_X1_isBegun_9 x mo lo hi d i a b) (H : Heap) (locs : List Loc) (ls : Array Slot) (hP : va_P G vwCl ([]) H) (hD : va_D A ([])) (hS : va_S A s.heap H locs) (hl : lv_has ls 7 [(0, .int x), (1, .int (nI mo)), (2, .int lo), (3, .int hi), (6, .int (nI i)), (4, .int a), (5, .int b)]), GO p l e (rmO 0 0) s m ([.int x, .int (nI mo), .int lo, .int hi] : List Value).toArray below meth c A (QI G kk ([]) (sX1_isBegun x mo lo hi)) H locs (F0 m 9 ls []) := by
    intro d
    induction d with
    | zero =>
      intro i a b hd eS H locs ls hP hD hS hl
      refine lv_iload hx hb dX1_isBegun_9 (lv_at hl 4 rfl) ?_
      refine lv_iload_n hx hb dX1_isBegun_11 rfl (lv_at hl 1 rfl) ?_
      refine lv_icmp_ge (tgt := 38) hx hb dX1_isBegun_12 (by decide) (fun c_12 => ?_) (fun c_12 => absurd (nI_le (a := mo) (b := i) (by omega) (by omega)) c_12)
      refine lv_iload hx hb dX1_isBegun_38 (lv_at hl 5 rfl) ?_
      refine lv_iload_n hx hb dX1_isBegun_40 rfl (lv_at hl 3 rfl) ?_
      refine lv_icmp_gt (tgt := 54) hx hb dX1_isBegun_41 (by decide) (fun c_41 => ?_) (fun c_41 => ?_)
      · have eS := eS.trans (if_pos c_41)
        refine lv_iconst (v := 0) hx hb dX1_isBegun_54 (by decide) ?_
        exact fin_z hx hb hr hlocks hK hP hD hS eS rfl dX1_isBegun_55
      · have eS := eS.trans (if_neg c_41)
        refine lv_iload hx hb dX1_isBegun_44 (lv_at hl 6 rfl) ?_
        refine lv_iload_n hx hb dX1_isBegun_46 rfl (lv_at hl 2 rfl) ?_
        refine lv_icmp_lt (tgt := 54) hx hb dX1_isBegun_47 (by decide) (fun c_47 => ?_) (fun c_47 => ?_)
        · have eS := eS.trans (if_pos c_47)
          refine lv_iconst (v := 0) hx hb dX1_isBegun_54 (by decide) ?_
          exact fin_z hx hb hr hlocks hK hP hD hS eS rfl dX1_isBegun_55
        · have eS := eS.trans (if_neg c_47)
          refine lv_iconst (v := 1) hx hb dX1_isBegun_50 (by decide) ?_
          refine lv_goto (tgt := 55) hx hb dX1_isBegun_51 (by decide) ?_
          exact fin_z hx hb hr hlocks hK hP hD hS eS rfl dX1_isBegun_55
    | succ d ih =>
      intro i a b hd eS H locs ls hP hD hS hl
      refine lv_iload hx hb dX1_isBegun_9 (lv_at hl 4 rfl) ?_
      refine lv_iload_n hx hb dX1_isBegun_11 rfl (lv_at hl 1 rfl) ?_
      refine lv_icmp_ge (tgt := 38) hx hb dX1_isBegun_12 (by decide) (fun c_12 => absurd c_12 (nI_ge (a := i) (b := mo) (by omega) (by omega))) (fun c_12 => ?_)
      refine lv_iload hx hb dX1_isBegun_15 (lv_at hl 5 rfl) ?_
      refine lv_bipush (v := 10) hx hb dX1_isBegun_17 (by decide) ?_
      refine lv_imul hx hb dX1_isBegun_19 ?_
      refine lv_istore (lv' := [(4, .int (a * 10)), (0, .int x), (1, .int (nI mo)), (2, .int lo), (3, .int hi), (6, .int (nI i)), (5, .int b)]) hx hb dX1_isBegun_20 hl (by decide) rfl (fun ls hl => ?_)
      refine lv_iload hx hb dX1_isBegun_22 (lv_at hl 6 rfl) ?_
      refine lv_bipush (v := 10) hx hb dX1_isBegun_24 (by decide) ?_
      refine lv_imul hx hb dX1_isBegun_26 ?_
      refine lv_bipush (v := 9) hx hb dX1_isBegun_27 (by decide) ?_
      refine lv_iadd hx hb dX1_isBegun_29 ?_
      refine lv_istore (lv' := [(5, .int ((b * 10) + 9)), (4, .int (a * 10)), (0, .int x), (1, .int (nI mo)), (2, .int lo), (3, .int hi), (6, .int (nI i))]) hx hb dX1_isBegun_30 hl (by decide) rfl (fun ls hl => ?_)
      refine lv_iinc (v := (nI (i + 1))) (lv' := [(6, .int (nI (i + 1))), (5, .int ((b * 10) + 9)), (4, .int (a * 10)), (0, .int x), (1, .int (nI mo)), (2, .int lo), (3, .int hi)]) hx hb dX1_isBegun_32 hl (k := 6) rfl (nI_add i 1) (by decide) rfl (fun ls hl => ?_)
      refine lv_goto (tgt := 9) hx hb dX1_isBegun_35 (by decide) ?_
      exact ih (i + 1) (a * 10) ((b * 10) + 9) (by omega) eS _ _ ls hP hD hS (lv_sub hl [3, 4, 5, 6, 0, 2, 1] rfl)
  exact L_1 mo 0 x x (Nat.zero_add _) eS _ _ ls hP hD hS (lv_sub hl [3, 4, 5, 6, 0, 2, 1] rfl)
def lp_X1_readNumber_6 (q : Nat → Int32) (tq : Nat → Int32) (sg : Nat → Int32) (dg : Nat) (lo : Int32) (hi : Int32) : Nat → Nat → Int32 → (Nat → Int32) → Int32 × (Nat → Int32)
  | 0, i, rd, q1 => (rd, q1)
  | d + 1, i, rd, q1 => ((fun (x_1 : Int32) => ((fun (z_2 : (Nat → Int32)) => (if (z_2 2) = 0 then (lp_X1_readNumber_6 q tq sg dg lo hi d (i + 1) (((rd * 10) + (sX6_signAt tq sg (q1 1))) - 48) z_2) else (0, z_2))) (sX1_moveIf q1 x_1))) (if (sX6_signAt tq sg (q1 1)) < 48 then 0 else (if 57 < (sX6_signAt tq sg (q1 1)) then 0 else (if (sX1_isBegun (((rd * 10) + (sX6_signAt tq sg (q1 1))) - 48) (dg - i) lo hi) = 0 then 0 else 1))))
def sX1_readNumber (q : Nat → Int32) (tq : Nat → Int32) (sg : Nat → Int32) (dg : Nat) (lo : Int32) (hi : Int32) : Int32 × (Nat → Int32) :=
  (lp_X1_readNumber_6 q tq sg dg lo hi dg 1 0 q)
set_option maxRecDepth 100000 in
set_option maxHeartbeats 4000000 in
theorem c_X1_readNumber (l : Launch) (G : va_G) (kk : Nat → ClassId) (h : Nat) (t : Nat) (sa : Nat) (q : Nat → Int32) (tq : Nat → Int32) (sg : Nat → Int32) (dg : Nat) (lo : Int32) (hi : Int32) (hdg4 : dg ≤ 4) : CC l yX1_readNumber cX1_readNumber 8 (some .int) (rmO 1 26) [.ref h, .int (nI dg), .int lo, .int hi] G kk ([(h, .inr (1, rdF t q)), (t, .inr (6, txF sa tq)), (sa, .inl (kk 1, 120, .inl sg))]) (QI G kk ([(h, .inr (1, rdF t ((sX1_readNumber q tq sg dg lo hi).2))), (t, .inr (6, txF sa tq)), (sa, .inl (kk 1, 120, .inl sg))]) ((sX1_readNumber q tq sg dg lo hi).1)) := by
  refine cc_start (by decide +kernel) (Nat.le_of_ble_eq_true rfl) ?_
  intro p e s m below meth c A ls hx hb hr hml hown hts hlocks hA hE hK hP hD hS hl
  have hown : s.vm.findClass RX1 = some m.cls := hown
  have hl : lv_has ls 8 [(0, .ref h), (1, .int (nI dg)), (2, .int lo), (3, .int hi)] := hl
  have eS : sX1_readNumber q tq sg dg lo hi = sX1_readNumber q tq sg dg lo hi := rfl
  refine lv_iconst (v := 0) hx hb dX1_readNumber_0 (by decide) ?_
  refine lv_istore (lv' := [(4, .int 0), (0, .ref h), (1, .int (nI dg)), (2, .int lo), (3, .int hi)]) hx hb dX1_readNumber_1 hl (by decide) rfl (fun ls hl => ?_)
  refine lv_iconst (v := 1) hx hb dX1_readNumber_3 (by decide) ?_
  refine lv_istore (lv' := [(5, .int 1), (4, .int 0), (0, .ref h), (1, .int (nI dg)), (2, .int lo), (3, .int hi)]) hx hb dX1_readNumber_4 hl (by decide) rfl (fun ls hl => ?_)
  have L_3 : ∀ (d : Nat) (i : Nat) (rd : Int32) (q1 : Nat → Int32) (hd : i + d = dg + 1) (hi1 : 1 ≤ i) (eS : sX1_readNumber q tq sg dg lo hi = lp_X1_readNumber_6 q tq sg dg lo hi d i rd q1) (H : Heap) (locs : List Loc) (ls : Array Slot) (hP : va_P G vwCl ([(h, .inr (1, rdF t q1)), (t, .inr (6, txF sa tq)), (sa, .inl (kk 1, 120, .inl sg))]) H) (hD : va_D A ([(h, .inr (1, rdF t q1)), (t, .inr (6, txF sa tq)), (sa, .inl (kk 1, 120, .inl sg))])) (hS : va_S A s.heap H locs) (hl : lv_has ls 8 [(0, .ref h), (1, .int (nI dg)), (2, .int lo), (3, .int hi), (5, .int (nI i)), (4, .int rd)]), GO p l e (rmO 1 26) s m ([.ref h, .int (nI dg), .int lo, .int hi] : List Value).toArray below meth c A (QI G kk ([(h, .inr (1, rdF t ((sX1_readNumber q tq sg dg lo hi).2))), (t, .inr (6, txF sa tq)), (sa, .inl (kk 1, 120, .inl sg))]) ((sX1_readNumber q tq sg dg lo hi).1)) H locs (F0 m 6 ls []) := by
    intro d
    induction d with
    | zero =>
      intro i rd q1 hd hi1 eS H locs ls hP hD hS hl
      refine lv_iload hx hb dX1_readNumber_6 (lv_at hl 4 rfl) ?_
      refine lv_iload_n hx hb dX1_readNumber_8 rfl (lv_at hl 1 rfl) ?_
      refine lv_icmp_gt (tgt := 94) hx hb dX1_readNumber_9 (by decide) (fun c_9 => ?_) (fun c_9 => absurd (nI_lt (a := dg) (b := i) (by omega) (by omega)) c_9)
      refine lv_iload hx hb dX1_readNumber_94 (lv_at hl 5 rfl) ?_
      exact fin_i hx hb hr hlocks hK (vP_eq (congrArg (fun z : Int32 × (Nat → Int32) => ([(h, .inr (1, rdF t z.2)), (t, .inr (6, txF sa tq)), (sa, .inl (kk 1, 120, .inl sg))] : va_W)) eS.symm) hP) (vD_eq (congrArg (fun z : Int32 × (Nat → Int32) => ([(h, .inr (1, rdF t z.2)), (t, .inr (6, txF sa tq)), (sa, .inl (kk 1, 120, .inl sg))] : va_W)) eS.symm) hD) hS (congrArg (fun z : Int32 × (Nat → Int32) => z.1) eS) dX1_readNumber_96
    | succ d ih =>
      intro i rd q1 hd hi1 eS H locs ls hP hD hS hl
      refine lv_iload hx hb dX1_readNumber_6 (lv_at hl 4 rfl) ?_
      refine lv_iload_n hx hb dX1_readNumber_8 rfl (lv_at hl 1 rfl) ?_
      refine lv_icmp_gt (tgt := 94) hx hb dX1_readNumber_9 (by decide) (fun c_9 => absurd c_9 ((fun q => absurd ((nI_ltI (a := dg) (b := i) (by omega) (by omega)).mp q) (by omega)))) (fun c_9 => ?_)
      refine lv_aload_n hx hb dX1_readNumber_12 rfl (lv_at hl 0 rfl) ?_
      refine r_get (v := .ref t) hx hb hts hown hK hP fl_X1_12 0 rfl rfl dX1_readNumber_13 ?_
      refine lv_aload_n hx hb dX1_readNumber_16 rfl (lv_at hl 0 rfl) ?_
      refine r_get (v := .int (q1 1)) hx hb hts hown hK hP fl_X1_29 0 rfl rfl dX1_readNumber_17 ?_
      refine k_goI (k_runV (rest := []) (As := [.int (q1 1)]) hx hb hml hown hts hK hP hD hS hA hE hl.1 (c_X6_signAt l G kk t sa tq sg (q1 1) ) vl_X1_33 rfl rfl rfl ⟨Nat.le_of_ble_eq_true rfl, Nat.le_of_ble_eq_true rfl, rfl, rfl⟩ [1, 2] rfl rfl ⟨Nat.zero_le _, Nat.zero_le _⟩ rfl (Nat.le_of_ble_eq_true rfl) dX1_readNumber_20) hP hD hS hA [1, 2] rfl ads2 (fun H locs hP hD hS => ?_)
      replace hP : va_P G vwCl ([(h, .inr (1, rdF t q1)), (t, .inr (6, txF sa tq)), (sa, .inl (kk 1, 120, .inl sg))]) H := hP
      replace hD : va_D A ([(h, .inr (1, rdF t q1)), (t, .inr (6, txF sa tq)), (sa, .inl (kk 1, 120, .inl sg))]) := hD
      refine lv_istore (lv' := [(6, .int (sX6_signAt tq sg (q1 1))), (0, .ref h), (1, .int (nI dg)), (2, .int lo), (3, .int hi), (5, .int (nI i)), (4, .int rd)]) hx hb dX1_readNumber_23 hl (by decide) rfl (fun ls hl => ?_)
      refine lv_iload hx hb dX1_readNumber_25 (lv_at hl 6 rfl) ?_
      refine lv_bipush (v := 10) hx hb dX1_readNumber_27 (by decide) ?_
      refine lv_imul hx hb dX1_readNumber_29 ?_
      refine lv_iload hx hb dX1_readNumber_30 (lv_at hl 0 rfl) ?_
      refine lv_iadd hx hb dX1_readNumber_32 ?_
      refine lv_bipush (v := 48) hx hb dX1_readNumber_33 (by decide) ?_
      refine lv_isub hx hb dX1_readNumber_35 ?_
      refine lv_istore (lv' := [(7, .int (((rd * 10) + (sX6_signAt tq sg (q1 1))) - 48)), (6, .int (sX6_signAt tq sg (q1 1))), (0, .ref h), (1, .int (nI dg)), (2, .int lo), (3, .int hi), (5, .int (nI i)), (4, .int rd)]) hx hb dX1_readNumber_36 hl (by decide) rfl (fun ls hl => ?_)
      refine lv_aload_n hx hb dX1_readNumber_38 rfl (lv_at hl 2 rfl) ?_
      refine lv_iload hx hb dX1_readNumber_39 (lv_at hl 1 rfl) ?_
      refine lv_bipush (v := 48) hx hb dX1_readNumber_41 (by decide) ?_
      have J_4 : ∀ (x_1 : Int32) (ex_1 : x_1 = (if (sX6_signAt tq sg (q1 1)) < 48 then 0 else (if 57 < (sX6_signAt tq sg (q1 1)) then 0 else (if (sX1_isBegun (((rd * 10) + (sX6_signAt tq sg (q1 1))) - 48) (dg - i) lo hi) = 0 then 0 else 1)))) (eS : sX1_readNumber q tq sg dg lo hi = (fun (x_1 : Int32) => ((fun (z_2 : (Nat → Int32)) => (if (z_2 2) = 0 then (lp_X1_readNumber_6 q tq sg dg lo hi d (i + 1) (((rd * 10) + (sX6_signAt tq sg (q1 1))) - 48) z_2) else (0, z_2))) (sX1_moveIf q1 x_1))) x_1) (H : Heap) (locs : List Loc) (ls : Array Slot) (hP : va_P G vwCl ([(h, .inr (1, rdF t q1)), (t, .inr (6, txF sa tq)), (sa, .inl (kk 1, 120, .inl sg))]) H) (hD : va_D A ([(h, .inr (1, rdF t q1)), (t, .inr (6, txF sa tq)), (sa, .inl (kk 1, 120, .inl sg))])) (hS : va_S A s.heap H locs) (hl : lv_has ls 8 [(7, .int (((rd * 10) + (sX6_signAt tq sg (q1 1))) - 48)), (6, .int (sX6_signAt tq sg (q1 1))), (0, .ref h), (1, .int (nI dg)), (2, .int lo), (3, .int hi), (5, .int (nI i)), (4, .int rd)]), GO p l e (rmO 1 26) s m ([.ref h, .int (nI dg), .int lo, .int hi] : List Value).toArray below meth c A (QI G kk ([(h, .inr (1, rdF t ((sX1_readNumber q tq sg dg lo hi).2))), (t, .inr (6, txF sa tq)), (sa, .inl (kk 1, 120, .inl sg))]) ((sX1_readNumber q tq sg dg lo hi).1)) H locs (F0 m 72 ls [.int x_1, .ref h]) := by
        intro x_1 ex_1 eS H locs ls hP hD hS hl
        refine k_goV (k_runV (rest := []) (As := [.int x_1]) hx hb hml hown hts hK hP hD hS hA hE hl.1 (c_X1_moveIf l G kk h t q1 x_1 ) vl_X1_37 rfl rfl rfl ⟨Nat.le_of_ble_eq_true rfl, Nat.le_of_ble_eq_true rfl, rfl, rfl⟩ [0] rfl rfl ⟨Nat.zero_le _, Nat.zero_le _⟩ rfl (Nat.le_of_ble_eq_true rfl) dX1_readNumber_72) hP hD hS hA [0] rfl ads1 (fun H locs hP hD hS => ?_)
        replace hP : va_P G vwCl ([(h, .inr (1, rdF t (sX1_moveIf q1 x_1))), (t, .inr (6, txF sa tq)), (sa, .inl (kk 1, 120, .inl sg))]) H := hP
        replace hD : va_D A ([(h, .inr (1, rdF t (sX1_moveIf q1 x_1))), (t, .inr (6, txF sa tq)), (sa, .inl (kk 1, 120, .inl sg))]) := hD
        have eS : sX1_readNumber q tq sg dg lo hi = (fun (z_2 : (Nat → Int32)) => (if (z_2 2) = 0 then (lp_X1_readNumber_6 q tq sg dg lo hi d (i + 1) (((rd * 10) + (sX6_signAt tq sg (q1 1))) - 48) z_2) else (0, z_2))) (sX1_moveIf q1 x_1) := eS
        generalize sX1_moveIf q1 x_1 = z_2 at hP hD eS ⊢
        refine lv_aload_n hx hb dX1_readNumber_75 rfl (lv_at hl 2 rfl) ?_
        refine r_get (v := .int (z_2 2)) hx hb hts hown hK hP fl_X1_25 0 rfl rfl dX1_readNumber_76 ?_
        refine lv_if_eq (tgt := 84) hx hb dX1_readNumber_79 (by decide) (fun c_79 => ?_) (fun c_79 => ?_)
        · have eS := eS.trans (if_pos c_79)
          refine lv_iload hx hb dX1_readNumber_84 (lv_at hl 0 rfl) ?_
          refine lv_istore (lv' := [(4, .int (((rd * 10) + (sX6_signAt tq sg (q1 1))) - 48)), (7, .int (((rd * 10) + (sX6_signAt tq sg (q1 1))) - 48)), (6, .int (sX6_signAt tq sg (q1 1))), (0, .ref h), (1, .int (nI dg)), (2, .int lo), (3, .int hi), (5, .int (nI i))]) hx hb dX1_readNumber_86 hl (by decide) rfl (fun ls hl => ?_)
          refine lv_iinc (v := (nI (i + 1))) (lv' := [(5, .int (nI (i + 1))), (4, .int (((rd * 10) + (sX6_signAt tq sg (q1 1))) - 48)), (7, .int (((rd * 10) + (sX6_signAt tq sg (q1 1))) - 48)), (6, .int (sX6_signAt tq sg (q1 1))), (0, .ref h), (1, .int (nI dg)), (2, .int lo), (3, .int hi)]) hx hb dX1_readNumber_88 hl (k := 7) rfl (nI_add i 1) (by decide) rfl (fun ls hl => ?_)
          refine lv_goto (tgt := 6) hx hb dX1_readNumber_91 (by decide) ?_
          exact ih (i + 1) (((rd * 10) + (sX6_signAt tq sg (q1 1))) - 48) z_2 (by omega) (by omega) eS _ _ ls hP hD hS (lv_sub hl [4, 5, 6, 7, 0, 1] rfl)
        · have eS := eS.trans (if_neg c_79)
          refine lv_iconst (v := 0) hx hb dX1_readNumber_82 (by decide) ?_
          exact fin_i hx hb hr hlocks hK (vP_eq (congrArg (fun z : Int32 × (Nat → Int32) => ([(h, .inr (1, rdF t z.2)), (t, .inr (6, txF sa tq)), (sa, .inl (kk 1, 120, .inl sg))] : va_W)) eS.symm) hP) (vD_eq (congrArg (fun z : Int32 × (Nat → Int32) => ([(h, .inr (1, rdF t z.2)), (t, .inr (6, txF sa tq)), (sa, .inl (kk 1, 120, .inl sg))] : va_W)) eS.symm) hD) hS (congrArg (fun z : Int32 × (Nat → Int32) => z.1) eS) dX1_readNumber_83
      refine lv_icmp_lt (tgt := 71) hx hb dX1_readNumber_43 (by decide) (fun c_43 => ?_) (fun c_43 => ?_)
      · refine lv_iconst (v := 0) hx hb dX1_readNumber_71 (by decide) ?_
        exact J_4 0 (if_pos c_43).symm (eS.trans (cg1 ((fun (x_1 : Int32) => ((fun (z_2 : (Nat → Int32)) => (if (z_2 2) = 0 then (lp_X1_readNumber_6 q tq sg dg lo hi d (i + 1) (((rd * 10) + (sX6_signAt tq sg (q1 1))) - 48) z_2) else (0, z_2))) (sX1_moveIf q1 x_1)))) (if_pos c_43))) _ _ ls hP hD hS (lv_sub hl [0, 1, 2, 3, 4, 5, 6, 7] rfl)
      · refine lv_iload hx hb dX1_readNumber_46 (lv_at hl 1 rfl) ?_
        refine lv_bipush (v := 57) hx hb dX1_readNumber_48 (by decide) ?_
        refine lv_icmp_gt (tgt := 71) hx hb dX1_readNumber_50 (by decide) (fun c_50 => ?_) (fun c_50 => ?_)
        · refine lv_iconst (v := 0) hx hb dX1_readNumber_71 (by decide) ?_
          exact J_4 0 ((if_neg c_43).trans (if_pos c_50)).symm (eS.trans (cg1 ((fun (x_1 : Int32) => ((fun (z_2 : (Nat → Int32)) => (if (z_2 2) = 0 then (lp_X1_readNumber_6 q tq sg dg lo hi d (i + 1) (((rd * 10) + (sX6_signAt tq sg (q1 1))) - 48) z_2) else (0, z_2))) (sX1_moveIf q1 x_1)))) ((if_neg c_43).trans (if_pos c_50)))) _ _ ls hP hD hS (lv_sub hl [0, 1, 2, 3, 4, 5, 6, 7] rfl)
        · refine lv_iload hx hb dX1_readNumber_53 (lv_at hl 0 rfl) ?_
          refine lv_iload_n hx hb dX1_readNumber_55 rfl (lv_at hl 3 rfl) ?_
          refine lv_iload hx hb dX1_readNumber_56 (lv_at hl 6 rfl) ?_
          refine lv_isub hx hb dX1_readNumber_58 ?_
          refine top_eq (y := (nI (dg - i))) (pk_sub (by omega)) ?_
          refine lv_iload_n hx hb dX1_readNumber_59 rfl (lv_at hl 4 rfl) ?_
          refine lv_iload_n hx hb dX1_readNumber_60 rfl (lv_at hl 5 rfl) ?_
          refine k_goI (k_runS (rest := [.ref h]) (As := [.int (((rd * 10) + (sX6_signAt tq sg (q1 1))) - 48), .int (nI (dg - i)), .int lo, .int hi]) hx hb hml hown hts hK hP hD hS hA hE hl.1 (c_X1_isBegun l G kk (((rd * 10) + (sX6_signAt tq sg (q1 1))) - 48) (dg - i) lo hi (by omega)) sl_X1_65 ⟨Nat.le_of_ble_eq_true rfl, Nat.le_of_ble_eq_true rfl, rfl, rfl⟩ [] rfl rfl ⟨Nat.zero_le _, Nat.zero_le _⟩ rfl (Nat.le_of_ble_eq_true rfl) dX1_readNumber_61) hP hD hS hA [] rfl ads0 (fun H locs hP hD hS => ?_)
          replace hP : va_P G vwCl ([(h, .inr (1, rdF t q1)), (t, .inr (6, txF sa tq)), (sa, .inl (kk 1, 120, .inl sg))]) H := hP
          replace hD : va_D A ([(h, .inr (1, rdF t q1)), (t, .inr (6, txF sa tq)), (sa, .inl (kk 1, 120, .inl sg))]) := hD
          refine lv_if_eq (tgt := 71) hx hb dX1_readNumber_64 (by decide) (fun c_64 => ?_) (fun c_64 => ?_)
          · refine lv_iconst (v := 0) hx hb dX1_readNumber_71 (by decide) ?_
            exact J_4 0 ((if_neg c_43).trans ((if_neg c_50).trans (if_pos c_64))).symm (eS.trans (cg1 ((fun (x_1 : Int32) => ((fun (z_2 : (Nat → Int32)) => (if (z_2 2) = 0 then (lp_X1_readNumber_6 q tq sg dg lo hi d (i + 1) (((rd * 10) + (sX6_signAt tq sg (q1 1))) - 48) z_2) else (0, z_2))) (sX1_moveIf q1 x_1)))) ((if_neg c_43).trans ((if_neg c_50).trans (if_pos c_64))))) _ _ ls hP hD hS (lv_sub hl [0, 1, 2, 3, 4, 5, 6, 7] rfl)
          · refine lv_iconst (v := 1) hx hb dX1_readNumber_67 (by decide) ?_
            refine lv_goto (tgt := 72) hx hb dX1_readNumber_68 (by decide) ?_
            exact J_4 1 ((if_neg c_43).trans ((if_neg c_50).trans (if_neg c_64))).symm (eS.trans (cg1 ((fun (x_1 : Int32) => ((fun (z_2 : (Nat → Int32)) => (if (z_2 2) = 0 then (lp_X1_readNumber_6 q tq sg dg lo hi d (i + 1) (((rd * 10) + (sX6_signAt tq sg (q1 1))) - 48) z_2) else (0, z_2))) (sX1_moveIf q1 x_1)))) ((if_neg c_43).trans ((if_neg c_50).trans (if_neg c_64))))) _ _ ls hP hD hS (lv_sub hl [0, 1, 2, 3, 4, 5, 6, 7] rfl)
  exact L_3 dg 1 0 q (by omega) (Nat.le_refl 1) eS _ _ ls hP hD hS (lv_sub hl [2, 3, 4, 5, 0, 1] rfl)
def sX1_readTemperature_z_3 (q : Nat → Int32) (tq : Nat → Int32) (sg : Nat → Int32) (x_1 : Int32) (z_2 : (Nat → Int32)) (z_3 : Int32 × (Nat → Int32)) : Int32 × (Nat → Int32) :=
  (z_3.1, z_3.2)
def sX1_readTemperature_z_4 (q : Nat → Int32) (tq : Nat → Int32) (sg : Nat → Int32) (x_1 : Int32) (z_2 : (Nat → Int32)) (z_4 : Int32 × (Nat → Int32)) : Int32 × (Nat → Int32) :=
  ((-z_4.1), z_4.2)
def sX1_readTemperature_z_2 (q : Nat → Int32) (tq : Nat → Int32) (sg : Nat → Int32) (x_1 : Int32) (z_2 : (Nat → Int32)) : Int32 × (Nat → Int32) :=
  (if (sX6_signAt tq sg (q 1)) = 45 then (sX1_readTemperature_z_4 q tq sg x_1 z_2 (sX1_readNumber z_2 tq sg 3 0 300)) else (sX1_readTemperature_z_3 q tq sg x_1 z_2 (sX1_readNumber z_2 tq sg 3 0 200)))
def sX1_readTemperature_j30 (q : Nat → Int32) (tq : Nat → Int32) (sg : Nat → Int32) (x_1 : Int32) : Int32 × (Nat → Int32) :=
  (sX1_readTemperature_z_2 q tq sg x_1 (sX1_moveIf q x_1))
def sX1_readTemperature (q : Nat → Int32) (tq : Nat → Int32) (sg : Nat → Int32) : Int32 × (Nat → Int32) :=
  (sX1_readTemperature_j30 q tq sg (if (sX6_signAt tq sg (q 1)) = 43 then 1 else (if (sX6_signAt tq sg (q 1)) = 45 then 1 else 0)))
set_option maxRecDepth 100000 in
set_option maxHeartbeats 4000000 in
theorem c_X1_readTemperature (l : Launch) (G : va_G) (kk : Nat → ClassId) (h : Nat) (t : Nat) (sa : Nat) (q : Nat → Int32) (tq : Nat → Int32) (sg : Nat → Int32)  : CC l yX1_readTemperature cX1_readTemperature 2 (some .int) (rmO 2 53) [.ref h] G kk ([(h, .inr (1, rdF t q)), (t, .inr (6, txF sa tq)), (sa, .inl (kk 1, 120, .inl sg))]) (QI G kk ([(h, .inr (1, rdF t ((sX1_readTemperature q tq sg).2))), (t, .inr (6, txF sa tq)), (sa, .inl (kk 1, 120, .inl sg))]) ((sX1_readTemperature q tq sg).1)) := by
  refine cc_start (by decide +kernel) (Nat.le_of_ble_eq_true rfl) ?_
  intro p e s m below meth c A ls hx hb hr hml hown hts hlocks hA hE hK hP hD hS hl
  have hown : s.vm.findClass RX1 = some m.cls := hown
  have hl : lv_has ls 2 [(0, .ref h)] := hl
  have eS : sX1_readTemperature q tq sg = sX1_readTemperature q tq sg := rfl
  refine lv_aload_n hx hb dX1_readTemperature_0 rfl (lv_at hl 0 rfl) ?_
  refine r_get (v := .ref t) hx hb hts hown hK hP fl_X1_12 0 rfl rfl dX1_readTemperature_1 ?_
  refine lv_aload_n hx hb dX1_readTemperature_4 rfl (lv_at hl 0 rfl) ?_
  refine r_get (v := .int (q 1)) hx hb hts hown hK hP fl_X1_29 0 rfl rfl dX1_readTemperature_5 ?_
  refine k_goI (k_runV (rest := []) (As := [.int (q 1)]) hx hb hml hown hts hK hP hD hS hA hE hl.1 (c_X6_signAt l G kk t sa tq sg (q 1) ) vl_X1_33 rfl rfl rfl ⟨Nat.le_of_ble_eq_true rfl, Nat.le_of_ble_eq_true rfl, rfl, rfl⟩ [1, 2] rfl rfl ⟨Nat.zero_le _, Nat.zero_le _⟩ rfl (Nat.le_of_ble_eq_true rfl) dX1_readTemperature_8) hP hD hS hA [1, 2] rfl ads2 (fun H locs hP hD hS => ?_)
  replace hP : va_P G vwCl ([(h, .inr (1, rdF t q)), (t, .inr (6, txF sa tq)), (sa, .inl (kk 1, 120, .inl sg))]) H := hP
  replace hD : va_D A ([(h, .inr (1, rdF t q)), (t, .inr (6, txF sa tq)), (sa, .inl (kk 1, 120, .inl sg))]) := hD
  refine lv_istore_n (lv' := [(1, .int (sX6_signAt tq sg (q 1))), (0, .ref h)]) hx hb dX1_readTemperature_11 rfl hl (by decide) rfl (fun ls hl => ?_)
  refine lv_aload_n hx hb dX1_readTemperature_12 rfl (lv_at hl 1 rfl) ?_
  refine lv_iload_n hx hb dX1_readTemperature_13 rfl (lv_at hl 0 rfl) ?_
  refine lv_bipush (v := 43) hx hb dX1_readTemperature_14 (by decide) ?_
  have J_5 : ∀ (x_1 : Int32) (ex_1 : x_1 = (if (sX6_signAt tq sg (q 1)) = 43 then 1 else (if (sX6_signAt tq sg (q 1)) = 45 then 1 else 0))) (eS : sX1_readTemperature q tq sg = sX1_readTemperature_j30 q tq sg x_1) (H : Heap) (locs : List Loc) (ls : Array Slot) (hP : va_P G vwCl ([(h, .inr (1, rdF t q)), (t, .inr (6, txF sa tq)), (sa, .inl (kk 1, 120, .inl sg))]) H) (hD : va_D A ([(h, .inr (1, rdF t q)), (t, .inr (6, txF sa tq)), (sa, .inl (kk 1, 120, .inl sg))])) (hS : va_S A s.heap H locs) (hl : lv_has ls 2 [(1, .int (sX6_signAt tq sg (q 1))), (0, .ref h)]), GO p l e (rmO 2 53) s m ([.ref h] : List Value).toArray below meth c A (QI G kk ([(h, .inr (1, rdF t ((sX1_readTemperature q tq sg).2))), (t, .inr (6, txF sa tq)), (sa, .inl (kk 1, 120, .inl sg))]) ((sX1_readTemperature q tq sg).1)) H locs (F0 m 30 ls [.int x_1, .ref h]) := by
    intro x_1 ex_1 eS H locs ls hP hD hS hl
    refine k_goV (k_runV (rest := []) (As := [.int x_1]) hx hb hml hown hts hK hP hD hS hA hE hl.1 (c_X1_moveIf l G kk h t q x_1 ) vl_X1_37 rfl rfl rfl ⟨Nat.le_of_ble_eq_true rfl, Nat.le_of_ble_eq_true rfl, rfl, rfl⟩ [0] rfl rfl ⟨Nat.zero_le _, Nat.zero_le _⟩ rfl (Nat.le_of_ble_eq_true rfl) dX1_readTemperature_30) hP hD hS hA [0] rfl ads1 (fun H locs hP hD hS => ?_)
    replace hP : va_P G vwCl ([(h, .inr (1, rdF t (sX1_moveIf q x_1))), (t, .inr (6, txF sa tq)), (sa, .inl (kk 1, 120, .inl sg))]) H := hP
    replace hD : va_D A ([(h, .inr (1, rdF t (sX1_moveIf q x_1))), (t, .inr (6, txF sa tq)), (sa, .inl (kk 1, 120, .inl sg))]) := hD
    have eS : sX1_readTemperature q tq sg = sX1_readTemperature_z_2 q tq sg x_1 (sX1_moveIf q x_1) := eS
    generalize sX1_moveIf q x_1 = z_2 at hP hD eS ⊢
    refine lv_iload_n hx hb dX1_readTemperature_33 rfl (lv_at hl 0 rfl) ?_
    refine lv_bipush (v := 45) hx hb dX1_readTemperature_34 (by decide) ?_
    refine lv_icmp_ne (tgt := 50) hx hb dX1_readTemperature_36 (by decide) (fun c_36 => ?_) (fun c_36 => ?_)
    · have eS := eS.trans (if_neg c_36)
      refine lv_aload_n hx hb dX1_readTemperature_50 rfl (lv_at hl 1 rfl) ?_
      refine lv_iconst (v := 3) hx hb dX1_readTemperature_51 (by decide) ?_
      refine lv_iconst (v := 0) hx hb dX1_readTemperature_52 (by decide) ?_
      refine lv_sipush (v := 200) hx hb dX1_readTemperature_53 (by decide) ?_
      refine k_goI (k_runV (rest := []) (As := [.int 3, .int 0, .int 200]) hx hb hml hown hts hK hP hD hS hA hE hl.1 (c_X1_readNumber l G kk h t sa z_2 tq sg 3 0 200 (by omega)) vl_X1_48 rfl rfl rfl ⟨Nat.le_of_ble_eq_true rfl, Nat.le_of_ble_eq_true rfl, rfl, rfl⟩ [0, 1, 2] rfl rfl ⟨Nat.zero_le _, Nat.zero_le _⟩ rfl (Nat.le_of_ble_eq_true rfl) dX1_readTemperature_56) hP hD hS hA [0, 1, 2] rfl ads3 (fun H locs hP hD hS => ?_)
      replace hP : va_P G vwCl ([(h, .inr (1, rdF t ((sX1_readNumber z_2 tq sg 3 0 200).2))), (t, .inr (6, txF sa tq)), (sa, .inl (kk 1, 120, .inl sg))]) H := hP
      replace hD : va_D A ([(h, .inr (1, rdF t ((sX1_readNumber z_2 tq sg 3 0 200).2))), (t, .inr (6, txF sa tq)), (sa, .inl (kk 1, 120, .inl sg))]) := hD
      have eS : sX1_readTemperature q tq sg = sX1_readTemperature_z_3 q tq sg x_1 z_2 (sX1_readNumber z_2 tq sg 3 0 200) := eS
      generalize sX1_readNumber z_2 tq sg 3 0 200 = z_3 at hP hD eS ⊢
      exact fin_i hx hb hr hlocks hK (vP_eq (congrArg (fun z : Int32 × (Nat → Int32) => ([(h, .inr (1, rdF t z.2)), (t, .inr (6, txF sa tq)), (sa, .inl (kk 1, 120, .inl sg))] : va_W)) eS.symm) hP) (vD_eq (congrArg (fun z : Int32 × (Nat → Int32) => ([(h, .inr (1, rdF t z.2)), (t, .inr (6, txF sa tq)), (sa, .inl (kk 1, 120, .inl sg))] : va_W)) eS.symm) hD) hS ((congrArg (fun z : Int32 × (Nat → Int32) => z.1) eS).trans rfl) dX1_readTemperature_59
    · have eS := eS.trans (if_pos c_36)
      refine lv_aload_n hx hb dX1_readTemperature_39 rfl (lv_at hl 1 rfl) ?_
      refine lv_iconst (v := 3) hx hb dX1_readTemperature_40 (by decide) ?_
      refine lv_iconst (v := 0) hx hb dX1_readTemperature_41 (by decide) ?_
      refine lv_sipush (v := 300) hx hb dX1_readTemperature_42 (by decide) ?_
      refine k_goI (k_runV (rest := []) (As := [.int 3, .int 0, .int 300]) hx hb hml hown hts hK hP hD hS hA hE hl.1 (c_X1_readNumber l G kk h t sa z_2 tq sg 3 0 300 (by omega)) vl_X1_48 rfl rfl rfl ⟨Nat.le_of_ble_eq_true rfl, Nat.le_of_ble_eq_true rfl, rfl, rfl⟩ [0, 1, 2] rfl rfl ⟨Nat.zero_le _, Nat.zero_le _⟩ rfl (Nat.le_of_ble_eq_true rfl) dX1_readTemperature_45) hP hD hS hA [0, 1, 2] rfl ads3 (fun H locs hP hD hS => ?_)
      replace hP : va_P G vwCl ([(h, .inr (1, rdF t ((sX1_readNumber z_2 tq sg 3 0 300).2))), (t, .inr (6, txF sa tq)), (sa, .inl (kk 1, 120, .inl sg))]) H := hP
      replace hD : va_D A ([(h, .inr (1, rdF t ((sX1_readNumber z_2 tq sg 3 0 300).2))), (t, .inr (6, txF sa tq)), (sa, .inl (kk 1, 120, .inl sg))]) := hD
      have eS : sX1_readTemperature q tq sg = sX1_readTemperature_z_4 q tq sg x_1 z_2 (sX1_readNumber z_2 tq sg 3 0 300) := eS
      generalize sX1_readNumber z_2 tq sg 3 0 300 = z_4 at hP hD eS ⊢
      refine lv_ineg hx hb dX1_readTemperature_48 ?_
      exact fin_i hx hb hr hlocks hK (vP_eq (congrArg (fun z : Int32 × (Nat → Int32) => ([(h, .inr (1, rdF t z.2)), (t, .inr (6, txF sa tq)), (sa, .inl (kk 1, 120, .inl sg))] : va_W)) eS.symm) hP) (vD_eq (congrArg (fun z : Int32 × (Nat → Int32) => ([(h, .inr (1, rdF t z.2)), (t, .inr (6, txF sa tq)), (sa, .inl (kk 1, 120, .inl sg))] : va_W)) eS.symm) hD) hS (congrArg (fun z : Int32 × (Nat → Int32) => z.1) eS) dX1_readTemperature_49
  refine lv_icmp_eq (tgt := 25) hx hb dX1_readTemperature_16 (by decide) (fun c_16 => ?_) (fun c_16 => ?_)
  · refine lv_iconst (v := 1) hx hb dX1_readTemperature_25 (by decide) ?_
    refine lv_goto (tgt := 30) hx hb dX1_readTemperature_26 (by decide) ?_
    exact J_5 1 (if_pos c_16).symm (eS.trans (cg1 (sX1_readTemperature_j30 q tq sg) (if_pos c_16))) _ _ ls hP hD hS (lv_sub hl [0, 1] rfl)
  · refine lv_iload_n hx hb dX1_readTemperature_19 rfl (lv_at hl 0 rfl) ?_
    refine lv_bipush (v := 45) hx hb dX1_readTemperature_20 (by decide) ?_
    refine lv_icmp_ne (tgt := 29) hx hb dX1_readTemperature_22 (by decide) (fun c_22 => ?_) (fun c_22 => ?_)
    · refine lv_iconst (v := 0) hx hb dX1_readTemperature_29 (by decide) ?_
      exact J_5 0 ((if_neg c_16).trans (if_neg c_22)).symm (eS.trans (cg1 (sX1_readTemperature_j30 q tq sg) ((if_neg c_16).trans (if_neg c_22)))) _ _ ls hP hD hS (lv_sub hl [0, 1] rfl)
    · refine lv_iconst (v := 1) hx hb dX1_readTemperature_25 (by decide) ?_
      refine lv_goto (tgt := 30) hx hb dX1_readTemperature_26 (by decide) ?_
      exact J_5 1 ((if_neg c_16).trans (if_pos c_22)).symm (eS.trans (cg1 (sX1_readTemperature_j30 q tq sg) ((if_neg c_16).trans (if_pos c_22)))) _ _ ls hP hD hS (lv_sub hl [0, 1] rfl)
def sX1_readsCommand_z_7 (q : Nat → Int32) (tq : Nat → Int32) (sg : Nat → Int32) (z_1 : (Nat → Int32)) (z_7 : Int32 × (Nat → Int32)) : Int32 × (Nat → Int32) :=
  (if (z_7.2 2) = 0 then (1, (upd z_7.2 4 z_7.1)) else (0, (upd z_7.2 4 z_7.1)))
def sX1_readsCommand_z_6 (q : Nat → Int32) (tq : Nat → Int32) (sg : Nat → Int32) (z_1 : (Nat → Int32)) (z_4 : Int32 × (Nat → Int32)) (z_5 : Int32 × (Nat → Int32)) (z_6 : Int32 × (Nat → Int32)) : Int32 × (Nat → Int32) :=
  (if (z_6.2 2) = 0 then (1, (upd z_6.2 6 z_6.1)) else (0, (upd z_6.2 6 z_6.1)))
def sX1_readsCommand_z_5 (q : Nat → Int32) (tq : Nat → Int32) (sg : Nat → Int32) (z_1 : (Nat → Int32)) (z_4 : Int32 × (Nat → Int32)) (z_5 : Int32 × (Nat → Int32)) : Int32 × (Nat → Int32) :=
  (sX1_readsCommand_z_6 q tq sg z_1 z_4 z_5 (sX1_readTemperature (upd z_5.2 5 z_5.1) tq sg))
def sX1_readsCommand_z_4 (q : Nat → Int32) (tq : Nat → Int32) (sg : Nat → Int32) (z_1 : (Nat → Int32)) (z_4 : Int32 × (Nat → Int32)) : Int32 × (Nat → Int32) :=
  (sX1_readsCommand_z_5 q tq sg z_1 z_4 (sX1_readTemperature (upd z_4.2 4 z_4.1) tq sg))
def sX1_readsCommand_z_3 (q : Nat → Int32) (tq : Nat → Int32) (sg : Nat → Int32) (z_1 : (Nat → Int32)) (z_3 : Int32 × (Nat → Int32)) : Int32 × (Nat → Int32) :=
  (if (z_3.2 2) = 0 then (1, (upd z_3.2 4 z_3.1)) else (0, (upd z_3.2 4 z_3.1)))
def sX1_readsCommand_z_2 (q : Nat → Int32) (tq : Nat → Int32) (sg : Nat → Int32) (z_1 : (Nat → Int32)) (z_2 : Int32 × (Nat → Int32)) : Int32 × (Nat → Int32) :=
  (if (z_2.2 2) = 0 then (1, (upd z_2.2 4 z_2.1)) else (0, (upd z_2.2 4 z_2.1)))
def sX1_readsCommand_z_1 (q : Nat → Int32) (tq : Nat → Int32) (sg : Nat → Int32) (z_1 : (Nat → Int32)) : Int32 × (Nat → Int32) :=
  (if (z_1 2) = 0 then (if (z_1 3) = 108 then (sX1_readsCommand_z_2 q tq sg z_1 (sX1_readNumber z_1 tq sg 4 0 9999)) else (if (z_1 3) = 109 then (sX1_readsCommand_z_3 q tq sg z_1 (sX1_readNumber z_1 tq sg 2 1 60)) else (if (z_1 3) = 114 then (sX1_readsCommand_z_4 q tq sg z_1 (sX1_readNumber z_1 tq sg 2 1 50)) else (sX1_readsCommand_z_7 q tq sg z_1 (sX1_readNumber z_1 tq sg 1 0 5))))) else (0, z_1))
def sX1_readsCommand (q : Nat → Int32) (tq : Nat → Int32) (sg : Nat → Int32) : Int32 × (Nat → Int32) :=
  (if (q 2) = 0 then (if (sX6_signAt tq sg (q 1)) = (-1) then (0, q) else (sX1_readsCommand_z_1 q tq sg (sX1_moveIf (upd q 3 (sX6_signAt tq sg (q 1))) (sX1_isCommand (sX6_signAt tq sg (q 1)))))) else (0, q))
set_option maxRecDepth 100000 in
set_option maxHeartbeats 4000000 in
theorem c_X1_readsCommand (l : Launch) (G : va_G) (kk : Nat → ClassId) (h : Nat) (t : Nat) (sa : Nat) (q : Nat → Int32) (tq : Nat → Int32) (sg : Nat → Int32)  : CC l yX1_readsCommand cX1_readsCommand 1 (some .boolean) (rmO 3 74) [.ref h] G kk ([(h, .inr (1, rdF t q)), (t, .inr (6, txF sa tq)), (sa, .inl (kk 1, 120, .inl sg))]) (QI G kk ([(h, .inr (1, rdF t ((sX1_readsCommand q tq sg).2))), (t, .inr (6, txF sa tq)), (sa, .inl (kk 1, 120, .inl sg))]) ((sX1_readsCommand q tq sg).1)) := by
  refine cc_start (by decide +kernel) (Nat.le_of_ble_eq_true rfl) ?_
  intro p e s m below meth c A ls hx hb hr hml hown hts hlocks hA hE hK hP hD hS hl
  have hown : s.vm.findClass RX1 = some m.cls := hown
  have hl : lv_has ls 1 [(0, .ref h)] := hl
  have eS : sX1_readsCommand q tq sg = sX1_readsCommand q tq sg := rfl
  refine lv_aload_n hx hb dX1_readsCommand_0 rfl (lv_at hl 0 rfl) ?_
  refine r_get (v := .int (q 2)) hx hb hts hown hK hP fl_X1_25 0 rfl rfl dX1_readsCommand_1 ?_
  refine lv_if_ne (tgt := 22) hx hb dX1_readsCommand_4 (by decide) (fun c_4 => ?_) (fun c_4 => ?_)
  · have eS := eS.trans (if_neg c_4)
    refine lv_iconst (v := 0) hx hb dX1_readsCommand_22 (by decide) ?_
    exact fin_z hx hb hr hlocks hK (vP_eq (congrArg (fun z : Int32 × (Nat → Int32) => ([(h, .inr (1, rdF t z.2)), (t, .inr (6, txF sa tq)), (sa, .inl (kk 1, 120, .inl sg))] : va_W)) eS.symm) hP) (vD_eq (congrArg (fun z : Int32 × (Nat → Int32) => ([(h, .inr (1, rdF t z.2)), (t, .inr (6, txF sa tq)), (sa, .inl (kk 1, 120, .inl sg))] : va_W)) eS.symm) hD) hS (congrArg (fun z : Int32 × (Nat → Int32) => z.1) eS) rfl dX1_readsCommand_23
  · have eS := eS.trans (if_pos c_4)
    refine lv_aload_n hx hb dX1_readsCommand_7 rfl (lv_at hl 0 rfl) ?_
    refine r_get (v := .ref t) hx hb hts hown hK hP fl_X1_12 0 rfl rfl dX1_readsCommand_8 ?_
    refine lv_aload_n hx hb dX1_readsCommand_11 rfl (lv_at hl 0 rfl) ?_
    refine r_get (v := .int (q 1)) hx hb hts hown hK hP fl_X1_29 0 rfl rfl dX1_readsCommand_12 ?_
    refine k_goI (k_runV (rest := []) (As := [.int (q 1)]) hx hb hml hown hts hK hP hD hS hA hE hl.1 (c_X6_signAt l G kk t sa tq sg (q 1) ) vl_X1_33 rfl rfl rfl ⟨Nat.le_of_ble_eq_true rfl, Nat.le_of_ble_eq_true rfl, rfl, rfl⟩ [1, 2] rfl rfl ⟨Nat.zero_le _, Nat.zero_le _⟩ rfl (Nat.le_of_ble_eq_true rfl) dX1_readsCommand_15) hP hD hS hA [1, 2] rfl ads2 (fun H locs hP hD hS => ?_)
    replace hP : va_P G vwCl ([(h, .inr (1, rdF t q)), (t, .inr (6, txF sa tq)), (sa, .inl (kk 1, 120, .inl sg))]) H := hP
    replace hD : va_D A ([(h, .inr (1, rdF t q)), (t, .inr (6, txF sa tq)), (sa, .inl (kk 1, 120, .inl sg))]) := hD
    refine lv_iconst (v := (-1)) hx hb dX1_readsCommand_18 (by decide) ?_
    refine lv_icmp_ne (tgt := 24) hx hb dX1_readsCommand_19 (by decide) (fun c_19 => ?_) (fun c_19 => ?_)
    · have eS := eS.trans (if_neg c_19)
      refine lv_aload_n hx hb dX1_readsCommand_24 rfl (lv_at hl 0 rfl) ?_
      refine lv_aload_n hx hb dX1_readsCommand_25 rfl (lv_at hl 0 rfl) ?_
      refine r_get (v := .ref t) hx hb hts hown hK hP fl_X1_12 0 rfl rfl dX1_readsCommand_26 ?_
      refine lv_aload_n hx hb dX1_readsCommand_29 rfl (lv_at hl 0 rfl) ?_
      refine r_get (v := .int (q 1)) hx hb hts hown hK hP fl_X1_29 0 rfl rfl dX1_readsCommand_30 ?_
      refine k_goI (k_runV (rest := [.ref h]) (As := [.int (q 1)]) hx hb hml hown hts hK hP hD hS hA hE hl.1 (c_X6_signAt l G kk t sa tq sg (q 1) ) vl_X1_33 rfl rfl rfl ⟨Nat.le_of_ble_eq_true rfl, Nat.le_of_ble_eq_true rfl, rfl, rfl⟩ [1, 2] rfl rfl ⟨Nat.zero_le _, Nat.zero_le _⟩ rfl (Nat.le_of_ble_eq_true rfl) dX1_readsCommand_33) hP hD hS hA [1, 2] rfl ads2 (fun H locs hP hD hS => ?_)
      replace hP : va_P G vwCl ([(h, .inr (1, rdF t q)), (t, .inr (6, txF sa tq)), (sa, .inl (kk 1, 120, .inl sg))]) H := hP
      replace hD : va_D A ([(h, .inr (1, rdF t q)), (t, .inr (6, txF sa tq)), (sa, .inl (kk 1, 120, .inl sg))]) := hD
      refine r_put hx hb hts hown hK hP hD hS fl_X1_41 fw_1_3 0 rfl rfl rfl (Nat.le_of_ble_eq_true rfl) dX1_readsCommand_36 (fun H locs hP hD hS => ?_)
      replace hP : va_P G vwCl ([(h, .inr (1, rdF t (upd q 3 (sX6_signAt tq sg (q 1))))), (t, .inr (6, txF sa tq)), (sa, .inl (kk 1, 120, .inl sg))]) H := hP
      replace hD : va_D A ([(h, .inr (1, rdF t (upd q 3 (sX6_signAt tq sg (q 1))))), (t, .inr (6, txF sa tq)), (sa, .inl (kk 1, 120, .inl sg))]) := hD
      refine lv_aload_n hx hb dX1_readsCommand_39 rfl (lv_at hl 0 rfl) ?_
      refine lv_aload_n hx hb dX1_readsCommand_40 rfl (lv_at hl 0 rfl) ?_
      refine r_get (v := .int (sX6_signAt tq sg (q 1))) hx hb hts hown hK hP fl_X1_41 0 rfl rfl dX1_readsCommand_41 ?_
      refine k_goI (k_runS (rest := [.ref h]) (As := [.int (sX6_signAt tq sg (q 1))]) hx hb hml hown hts hK hP hD hS hA hE hl.1 (c_X1_isCommand l G kk (sX6_signAt tq sg (q 1)) ) sl_X1_44 ⟨Nat.le_of_ble_eq_true rfl, Nat.le_of_ble_eq_true rfl, rfl, rfl⟩ [] rfl rfl ⟨Nat.zero_le _, Nat.zero_le _⟩ rfl (Nat.le_of_ble_eq_true rfl) dX1_readsCommand_44) hP hD hS hA [] rfl ads0 (fun H locs hP hD hS => ?_)
      replace hP : va_P G vwCl ([(h, .inr (1, rdF t (upd q 3 (sX6_signAt tq sg (q 1))))), (t, .inr (6, txF sa tq)), (sa, .inl (kk 1, 120, .inl sg))]) H := hP
      replace hD : va_D A ([(h, .inr (1, rdF t (upd q 3 (sX6_signAt tq sg (q 1))))), (t, .inr (6, txF sa tq)), (sa, .inl (kk 1, 120, .inl sg))]) := hD
      refine k_goV (k_runV (rest := []) (As := [.int (sX1_isCommand (sX6_signAt tq sg (q 1)))]) hx hb hml hown hts hK hP hD hS hA hE hl.1 (c_X1_moveIf l G kk h t (upd q 3 (sX6_signAt tq sg (q 1))) (sX1_isCommand (sX6_signAt tq sg (q 1))) ) vl_X1_37 rfl rfl rfl ⟨Nat.le_of_ble_eq_true rfl, Nat.le_of_ble_eq_true rfl, rfl, rfl⟩ [0] rfl rfl ⟨Nat.zero_le _, Nat.zero_le _⟩ rfl (Nat.le_of_ble_eq_true rfl) dX1_readsCommand_47) hP hD hS hA [0] rfl ads1 (fun H locs hP hD hS => ?_)
      replace hP : va_P G vwCl ([(h, .inr (1, rdF t (sX1_moveIf (upd q 3 (sX6_signAt tq sg (q 1))) (sX1_isCommand (sX6_signAt tq sg (q 1)))))), (t, .inr (6, txF sa tq)), (sa, .inl (kk 1, 120, .inl sg))]) H := hP
      replace hD : va_D A ([(h, .inr (1, rdF t (sX1_moveIf (upd q 3 (sX6_signAt tq sg (q 1))) (sX1_isCommand (sX6_signAt tq sg (q 1)))))), (t, .inr (6, txF sa tq)), (sa, .inl (kk 1, 120, .inl sg))]) := hD
      have eS : sX1_readsCommand q tq sg = sX1_readsCommand_z_1 q tq sg (sX1_moveIf (upd q 3 (sX6_signAt tq sg (q 1))) (sX1_isCommand (sX6_signAt tq sg (q 1)))) := eS
      generalize sX1_moveIf (upd q 3 (sX6_signAt tq sg (q 1))) (sX1_isCommand (sX6_signAt tq sg (q 1))) = z_1 at hP hD eS ⊢
      refine lv_aload_n hx hb dX1_readsCommand_50 rfl (lv_at hl 0 rfl) ?_
      refine r_get (v := .int (z_1 2)) hx hb hts hown hK hP fl_X1_25 0 rfl rfl dX1_readsCommand_51 ?_
      refine lv_if_eq (tgt := 59) hx hb dX1_readsCommand_54 (by decide) (fun c_54 => ?_) (fun c_54 => ?_)
      · have eS := eS.trans (if_pos c_54)
        refine lv_aload_n hx hb dX1_readsCommand_59 rfl (lv_at hl 0 rfl) ?_
        refine r_get (v := .int (z_1 3)) hx hb hts hown hK hP fl_X1_41 0 rfl rfl dX1_readsCommand_60 ?_
        refine (Decidable.em ((z_1 3) = 108)).elim (fun c_63_0 => ?_) (fun c_63_0 => ?_)
        · have eS := eS.trans (if_pos c_63_0)
          refine lv_lookup (off := 79) (tgt := 142) hx hb dX1_readsCommand_63 (by decide) (by rw [c_63_0]; first | done | rfl) (by decide) ?_
          refine lv_aload_n hx hb dX1_readsCommand_142 rfl (lv_at hl 0 rfl) ?_
          refine lv_aload_n hx hb dX1_readsCommand_143 rfl (lv_at hl 0 rfl) ?_
          refine lv_iconst (v := 4) hx hb dX1_readsCommand_144 (by decide) ?_
          refine lv_iconst (v := 0) hx hb dX1_readsCommand_145 (by decide) ?_
          refine lv_sipush (v := 9999) hx hb dX1_readsCommand_146 (by decide) ?_
          refine k_goI (k_runV (rest := [.ref h]) (As := [.int 4, .int 0, .int 9999]) hx hb hml hown hts hK hP hD hS hA hE hl.1 (c_X1_readNumber l G kk h t sa z_1 tq sg 4 0 9999 (by omega)) vl_X1_48 rfl rfl rfl ⟨Nat.le_of_ble_eq_true rfl, Nat.le_of_ble_eq_true rfl, rfl, rfl⟩ [0, 1, 2] rfl rfl ⟨Nat.zero_le _, Nat.zero_le _⟩ rfl (Nat.le_of_ble_eq_true rfl) dX1_readsCommand_149) hP hD hS hA [0, 1, 2] rfl ads3 (fun H locs hP hD hS => ?_)
          replace hP : va_P G vwCl ([(h, .inr (1, rdF t ((sX1_readNumber z_1 tq sg 4 0 9999).2))), (t, .inr (6, txF sa tq)), (sa, .inl (kk 1, 120, .inl sg))]) H := hP
          replace hD : va_D A ([(h, .inr (1, rdF t ((sX1_readNumber z_1 tq sg 4 0 9999).2))), (t, .inr (6, txF sa tq)), (sa, .inl (kk 1, 120, .inl sg))]) := hD
          have eS : sX1_readsCommand q tq sg = sX1_readsCommand_z_2 q tq sg z_1 (sX1_readNumber z_1 tq sg 4 0 9999) := eS
          generalize sX1_readNumber z_1 tq sg 4 0 9999 = z_2 at hP hD eS ⊢
          refine r_put hx hb hts hown hK hP hD hS fl_X1_52 fw_1_4 0 rfl rfl rfl (Nat.le_of_ble_eq_true rfl) dX1_readsCommand_152 (fun H locs hP hD hS => ?_)
          replace hP : va_P G vwCl ([(h, .inr (1, rdF t (upd z_2.2 4 z_2.1))), (t, .inr (6, txF sa tq)), (sa, .inl (kk 1, 120, .inl sg))]) H := hP
          replace hD : va_D A ([(h, .inr (1, rdF t (upd z_2.2 4 z_2.1))), (t, .inr (6, txF sa tq)), (sa, .inl (kk 1, 120, .inl sg))]) := hD
          refine lv_goto (tgt := 169) hx hb dX1_readsCommand_155 (by decide) ?_
          refine lv_aload_n hx hb dX1_readsCommand_169 rfl (lv_at hl 0 rfl) ?_
          refine r_get (v := .int (z_2.2 2)) hx hb hts hown hK hP fl_X1_25 0 rfl rfl dX1_readsCommand_170 ?_
          refine lv_if_ne (tgt := 180) hx hb dX1_readsCommand_173 (by decide) (fun c_173 => ?_) (fun c_173 => ?_)
          · have eS := eS.trans (if_neg c_173)
            refine lv_iconst (v := 0) hx hb dX1_readsCommand_180 (by decide) ?_
            exact fin_z hx hb hr hlocks hK (vP_eq (congrArg (fun z : Int32 × (Nat → Int32) => ([(h, .inr (1, rdF t z.2)), (t, .inr (6, txF sa tq)), (sa, .inl (kk 1, 120, .inl sg))] : va_W)) eS.symm) hP) (vD_eq (congrArg (fun z : Int32 × (Nat → Int32) => ([(h, .inr (1, rdF t z.2)), (t, .inr (6, txF sa tq)), (sa, .inl (kk 1, 120, .inl sg))] : va_W)) eS.symm) hD) hS (congrArg (fun z : Int32 × (Nat → Int32) => z.1) eS) rfl dX1_readsCommand_181
          · have eS := eS.trans (if_pos c_173)
            refine lv_iconst (v := 1) hx hb dX1_readsCommand_176 (by decide) ?_
            refine lv_goto (tgt := 181) hx hb dX1_readsCommand_177 (by decide) ?_
            exact fin_z hx hb hr hlocks hK (vP_eq (congrArg (fun z : Int32 × (Nat → Int32) => ([(h, .inr (1, rdF t z.2)), (t, .inr (6, txF sa tq)), (sa, .inl (kk 1, 120, .inl sg))] : va_W)) eS.symm) hP) (vD_eq (congrArg (fun z : Int32 × (Nat → Int32) => ([(h, .inr (1, rdF t z.2)), (t, .inr (6, txF sa tq)), (sa, .inl (kk 1, 120, .inl sg))] : va_W)) eS.symm) hD) hS (congrArg (fun z : Int32 × (Nat → Int32) => z.1) eS) rfl dX1_readsCommand_181
        have eS := eS.trans (if_neg c_63_0)
        refine (Decidable.em ((z_1 3) = 109)).elim (fun c_63_1 => ?_) (fun c_63_1 => ?_)
        · have eS := eS.trans (if_pos c_63_1)
          refine lv_lookup (off := 64) (tgt := 127) hx hb dX1_readsCommand_63 (by decide) (by rw [c_63_1]; first | done | rfl) (by decide) ?_
          refine lv_aload_n hx hb dX1_readsCommand_127 rfl (lv_at hl 0 rfl) ?_
          refine lv_aload_n hx hb dX1_readsCommand_128 rfl (lv_at hl 0 rfl) ?_
          refine lv_iconst (v := 2) hx hb dX1_readsCommand_129 (by decide) ?_
          refine lv_iconst (v := 1) hx hb dX1_readsCommand_130 (by decide) ?_
          refine lv_bipush (v := 60) hx hb dX1_readsCommand_131 (by decide) ?_
          refine k_goI (k_runV (rest := [.ref h]) (As := [.int 2, .int 1, .int 60]) hx hb hml hown hts hK hP hD hS hA hE hl.1 (c_X1_readNumber l G kk h t sa z_1 tq sg 2 1 60 (by omega)) vl_X1_48 rfl rfl rfl ⟨Nat.le_of_ble_eq_true rfl, Nat.le_of_ble_eq_true rfl, rfl, rfl⟩ [0, 1, 2] rfl rfl ⟨Nat.zero_le _, Nat.zero_le _⟩ rfl (Nat.le_of_ble_eq_true rfl) dX1_readsCommand_133) hP hD hS hA [0, 1, 2] rfl ads3 (fun H locs hP hD hS => ?_)
          replace hP : va_P G vwCl ([(h, .inr (1, rdF t ((sX1_readNumber z_1 tq sg 2 1 60).2))), (t, .inr (6, txF sa tq)), (sa, .inl (kk 1, 120, .inl sg))]) H := hP
          replace hD : va_D A ([(h, .inr (1, rdF t ((sX1_readNumber z_1 tq sg 2 1 60).2))), (t, .inr (6, txF sa tq)), (sa, .inl (kk 1, 120, .inl sg))]) := hD
          have eS : sX1_readsCommand q tq sg = sX1_readsCommand_z_3 q tq sg z_1 (sX1_readNumber z_1 tq sg 2 1 60) := eS
          generalize sX1_readNumber z_1 tq sg 2 1 60 = z_3 at hP hD eS ⊢
          refine r_put hx hb hts hown hK hP hD hS fl_X1_52 fw_1_4 0 rfl rfl rfl (Nat.le_of_ble_eq_true rfl) dX1_readsCommand_136 (fun H locs hP hD hS => ?_)
          replace hP : va_P G vwCl ([(h, .inr (1, rdF t (upd z_3.2 4 z_3.1))), (t, .inr (6, txF sa tq)), (sa, .inl (kk 1, 120, .inl sg))]) H := hP
          replace hD : va_D A ([(h, .inr (1, rdF t (upd z_3.2 4 z_3.1))), (t, .inr (6, txF sa tq)), (sa, .inl (kk 1, 120, .inl sg))]) := hD
          refine lv_goto (tgt := 169) hx hb dX1_readsCommand_139 (by decide) ?_
          refine lv_aload_n hx hb dX1_readsCommand_169 rfl (lv_at hl 0 rfl) ?_
          refine r_get (v := .int (z_3.2 2)) hx hb hts hown hK hP fl_X1_25 0 rfl rfl dX1_readsCommand_170 ?_
          refine lv_if_ne (tgt := 180) hx hb dX1_readsCommand_173 (by decide) (fun c_173 => ?_) (fun c_173 => ?_)
          · have eS := eS.trans (if_neg c_173)
            refine lv_iconst (v := 0) hx hb dX1_readsCommand_180 (by decide) ?_
            exact fin_z hx hb hr hlocks hK (vP_eq (congrArg (fun z : Int32 × (Nat → Int32) => ([(h, .inr (1, rdF t z.2)), (t, .inr (6, txF sa tq)), (sa, .inl (kk 1, 120, .inl sg))] : va_W)) eS.symm) hP) (vD_eq (congrArg (fun z : Int32 × (Nat → Int32) => ([(h, .inr (1, rdF t z.2)), (t, .inr (6, txF sa tq)), (sa, .inl (kk 1, 120, .inl sg))] : va_W)) eS.symm) hD) hS (congrArg (fun z : Int32 × (Nat → Int32) => z.1) eS) rfl dX1_readsCommand_181
          · have eS := eS.trans (if_pos c_173)
            refine lv_iconst (v := 1) hx hb dX1_readsCommand_176 (by decide) ?_
            refine lv_goto (tgt := 181) hx hb dX1_readsCommand_177 (by decide) ?_
            exact fin_z hx hb hr hlocks hK (vP_eq (congrArg (fun z : Int32 × (Nat → Int32) => ([(h, .inr (1, rdF t z.2)), (t, .inr (6, txF sa tq)), (sa, .inl (kk 1, 120, .inl sg))] : va_W)) eS.symm) hP) (vD_eq (congrArg (fun z : Int32 × (Nat → Int32) => ([(h, .inr (1, rdF t z.2)), (t, .inr (6, txF sa tq)), (sa, .inl (kk 1, 120, .inl sg))] : va_W)) eS.symm) hD) hS (congrArg (fun z : Int32 × (Nat → Int32) => z.1) eS) rfl dX1_readsCommand_181
        have eS := eS.trans (if_neg c_63_1)
        refine (Decidable.em ((z_1 3) = 114)).elim (fun c_63_2 => ?_) (fun c_63_2 => ?_)
        · have eS := eS.trans (if_pos c_63_2)
          refine lv_lookup (off := 33) (tgt := 96) hx hb dX1_readsCommand_63 (by decide) (by rw [c_63_2]; first | done | rfl) (by decide) ?_
          refine lv_aload_n hx hb dX1_readsCommand_96 rfl (lv_at hl 0 rfl) ?_
          refine lv_aload_n hx hb dX1_readsCommand_97 rfl (lv_at hl 0 rfl) ?_
          refine lv_iconst (v := 2) hx hb dX1_readsCommand_98 (by decide) ?_
          refine lv_iconst (v := 1) hx hb dX1_readsCommand_99 (by decide) ?_
          refine lv_bipush (v := 50) hx hb dX1_readsCommand_100 (by decide) ?_
          refine k_goI (k_runV (rest := [.ref h]) (As := [.int 2, .int 1, .int 50]) hx hb hml hown hts hK hP hD hS hA hE hl.1 (c_X1_readNumber l G kk h t sa z_1 tq sg 2 1 50 (by omega)) vl_X1_48 rfl rfl rfl ⟨Nat.le_of_ble_eq_true rfl, Nat.le_of_ble_eq_true rfl, rfl, rfl⟩ [0, 1, 2] rfl rfl ⟨Nat.zero_le _, Nat.zero_le _⟩ rfl (Nat.le_of_ble_eq_true rfl) dX1_readsCommand_102) hP hD hS hA [0, 1, 2] rfl ads3 (fun H locs hP hD hS => ?_)
          replace hP : va_P G vwCl ([(h, .inr (1, rdF t ((sX1_readNumber z_1 tq sg 2 1 50).2))), (t, .inr (6, txF sa tq)), (sa, .inl (kk 1, 120, .inl sg))]) H := hP
          replace hD : va_D A ([(h, .inr (1, rdF t ((sX1_readNumber z_1 tq sg 2 1 50).2))), (t, .inr (6, txF sa tq)), (sa, .inl (kk 1, 120, .inl sg))]) := hD
          have eS : sX1_readsCommand q tq sg = sX1_readsCommand_z_4 q tq sg z_1 (sX1_readNumber z_1 tq sg 2 1 50) := eS
          generalize sX1_readNumber z_1 tq sg 2 1 50 = z_4 at hP hD eS ⊢
          refine r_put hx hb hts hown hK hP hD hS fl_X1_52 fw_1_4 0 rfl rfl rfl (Nat.le_of_ble_eq_true rfl) dX1_readsCommand_105 (fun H locs hP hD hS => ?_)
          replace hP : va_P G vwCl ([(h, .inr (1, rdF t (upd z_4.2 4 z_4.1))), (t, .inr (6, txF sa tq)), (sa, .inl (kk 1, 120, .inl sg))]) H := hP
          replace hD : va_D A ([(h, .inr (1, rdF t (upd z_4.2 4 z_4.1))), (t, .inr (6, txF sa tq)), (sa, .inl (kk 1, 120, .inl sg))]) := hD
          refine lv_aload_n hx hb dX1_readsCommand_108 rfl (lv_at hl 0 rfl) ?_
          refine lv_aload_n hx hb dX1_readsCommand_109 rfl (lv_at hl 0 rfl) ?_
          refine k_goI (k_runV (rest := [.ref h]) (As := []) hx hb hml hown hts hK hP hD hS hA hE hl.1 (c_X1_readTemperature l G kk h t sa (upd z_4.2 4 z_4.1) tq sg ) vl_X1_55 rfl rfl rfl ⟨Nat.le_of_ble_eq_true rfl, Nat.le_of_ble_eq_true rfl, rfl, rfl⟩ [0, 1, 2] rfl rfl ⟨Nat.zero_le _, Nat.zero_le _⟩ rfl (Nat.le_of_ble_eq_true rfl) dX1_readsCommand_110) hP hD hS hA [0, 1, 2] rfl ads3 (fun H locs hP hD hS => ?_)
          replace hP : va_P G vwCl ([(h, .inr (1, rdF t ((sX1_readTemperature (upd z_4.2 4 z_4.1) tq sg).2))), (t, .inr (6, txF sa tq)), (sa, .inl (kk 1, 120, .inl sg))]) H := hP
          replace hD : va_D A ([(h, .inr (1, rdF t ((sX1_readTemperature (upd z_4.2 4 z_4.1) tq sg).2))), (t, .inr (6, txF sa tq)), (sa, .inl (kk 1, 120, .inl sg))]) := hD
          have eS : sX1_readsCommand q tq sg = sX1_readsCommand_z_5 q tq sg z_1 z_4 (sX1_readTemperature (upd z_4.2 4 z_4.1) tq sg) := eS
          generalize sX1_readTemperature (upd z_4.2 4 z_4.1) tq sg = z_5 at hP hD eS ⊢
          refine r_put hx hb hts hown hK hP hD hS fl_X1_59 fw_1_5 0 rfl rfl rfl (Nat.le_of_ble_eq_true rfl) dX1_readsCommand_113 (fun H locs hP hD hS => ?_)
          replace hP : va_P G vwCl ([(h, .inr (1, rdF t (upd z_5.2 5 z_5.1))), (t, .inr (6, txF sa tq)), (sa, .inl (kk 1, 120, .inl sg))]) H := hP
          replace hD : va_D A ([(h, .inr (1, rdF t (upd z_5.2 5 z_5.1))), (t, .inr (6, txF sa tq)), (sa, .inl (kk 1, 120, .inl sg))]) := hD
          refine lv_aload_n hx hb dX1_readsCommand_116 rfl (lv_at hl 0 rfl) ?_
          refine lv_aload_n hx hb dX1_readsCommand_117 rfl (lv_at hl 0 rfl) ?_
          refine k_goI (k_runV (rest := [.ref h]) (As := []) hx hb hml hown hts hK hP hD hS hA hE hl.1 (c_X1_readTemperature l G kk h t sa (upd z_5.2 5 z_5.1) tq sg ) vl_X1_55 rfl rfl rfl ⟨Nat.le_of_ble_eq_true rfl, Nat.le_of_ble_eq_true rfl, rfl, rfl⟩ [0, 1, 2] rfl rfl ⟨Nat.zero_le _, Nat.zero_le _⟩ rfl (Nat.le_of_ble_eq_true rfl) dX1_readsCommand_118) hP hD hS hA [0, 1, 2] rfl ads3 (fun H locs hP hD hS => ?_)
          replace hP : va_P G vwCl ([(h, .inr (1, rdF t ((sX1_readTemperature (upd z_5.2 5 z_5.1) tq sg).2))), (t, .inr (6, txF sa tq)), (sa, .inl (kk 1, 120, .inl sg))]) H := hP
          replace hD : va_D A ([(h, .inr (1, rdF t ((sX1_readTemperature (upd z_5.2 5 z_5.1) tq sg).2))), (t, .inr (6, txF sa tq)), (sa, .inl (kk 1, 120, .inl sg))]) := hD
          have eS : sX1_readsCommand q tq sg = sX1_readsCommand_z_6 q tq sg z_1 z_4 z_5 (sX1_readTemperature (upd z_5.2 5 z_5.1) tq sg) := eS
          generalize sX1_readTemperature (upd z_5.2 5 z_5.1) tq sg = z_6 at hP hD eS ⊢
          refine r_put hx hb hts hown hK hP hD hS fl_X1_62 fw_1_6 0 rfl rfl rfl (Nat.le_of_ble_eq_true rfl) dX1_readsCommand_121 (fun H locs hP hD hS => ?_)
          replace hP : va_P G vwCl ([(h, .inr (1, rdF t (upd z_6.2 6 z_6.1))), (t, .inr (6, txF sa tq)), (sa, .inl (kk 1, 120, .inl sg))]) H := hP
          replace hD : va_D A ([(h, .inr (1, rdF t (upd z_6.2 6 z_6.1))), (t, .inr (6, txF sa tq)), (sa, .inl (kk 1, 120, .inl sg))]) := hD
          refine lv_goto (tgt := 169) hx hb dX1_readsCommand_124 (by decide) ?_
          refine lv_aload_n hx hb dX1_readsCommand_169 rfl (lv_at hl 0 rfl) ?_
          refine r_get (v := .int (z_6.2 2)) hx hb hts hown hK hP fl_X1_25 0 rfl rfl dX1_readsCommand_170 ?_
          refine lv_if_ne (tgt := 180) hx hb dX1_readsCommand_173 (by decide) (fun c_173 => ?_) (fun c_173 => ?_)
          · have eS := eS.trans (if_neg c_173)
            refine lv_iconst (v := 0) hx hb dX1_readsCommand_180 (by decide) ?_
            exact fin_z hx hb hr hlocks hK (vP_eq (congrArg (fun z : Int32 × (Nat → Int32) => ([(h, .inr (1, rdF t z.2)), (t, .inr (6, txF sa tq)), (sa, .inl (kk 1, 120, .inl sg))] : va_W)) eS.symm) hP) (vD_eq (congrArg (fun z : Int32 × (Nat → Int32) => ([(h, .inr (1, rdF t z.2)), (t, .inr (6, txF sa tq)), (sa, .inl (kk 1, 120, .inl sg))] : va_W)) eS.symm) hD) hS (congrArg (fun z : Int32 × (Nat → Int32) => z.1) eS) rfl dX1_readsCommand_181
          · have eS := eS.trans (if_pos c_173)
            refine lv_iconst (v := 1) hx hb dX1_readsCommand_176 (by decide) ?_
            refine lv_goto (tgt := 181) hx hb dX1_readsCommand_177 (by decide) ?_
            exact fin_z hx hb hr hlocks hK (vP_eq (congrArg (fun z : Int32 × (Nat → Int32) => ([(h, .inr (1, rdF t z.2)), (t, .inr (6, txF sa tq)), (sa, .inl (kk 1, 120, .inl sg))] : va_W)) eS.symm) hP) (vD_eq (congrArg (fun z : Int32 × (Nat → Int32) => ([(h, .inr (1, rdF t z.2)), (t, .inr (6, txF sa tq)), (sa, .inl (kk 1, 120, .inl sg))] : va_W)) eS.symm) hD) hS (congrArg (fun z : Int32 × (Nat → Int32) => z.1) eS) rfl dX1_readsCommand_181
        have eS := eS.trans (if_neg c_63_2)
        refine lv_lookup (off := 95) (tgt := 158) hx hb dX1_readsCommand_63 (by decide) (((lv_osw c_63_0 (by decide)).trans ((lv_osw c_63_1 (by decide)).trans ((lv_osw c_63_2 (by decide)).trans rfl)))) (by decide) ?_
        refine lv_aload_n hx hb dX1_readsCommand_158 rfl (lv_at hl 0 rfl) ?_
        refine lv_aload_n hx hb dX1_readsCommand_159 rfl (lv_at hl 0 rfl) ?_
        refine lv_iconst (v := 1) hx hb dX1_readsCommand_160 (by decide) ?_
        refine lv_iconst (v := 0) hx hb dX1_readsCommand_161 (by decide) ?_
        refine lv_iconst (v := 5) hx hb dX1_readsCommand_162 (by decide) ?_
        refine k_goI (k_runV (rest := [.ref h]) (As := [.int 1, .int 0, .int 5]) hx hb hml hown hts hK hP hD hS hA hE hl.1 (c_X1_readNumber l G kk h t sa z_1 tq sg 1 0 5 (by omega)) vl_X1_48 rfl rfl rfl ⟨Nat.le_of_ble_eq_true rfl, Nat.le_of_ble_eq_true rfl, rfl, rfl⟩ [0, 1, 2] rfl rfl ⟨Nat.zero_le _, Nat.zero_le _⟩ rfl (Nat.le_of_ble_eq_true rfl) dX1_readsCommand_163) hP hD hS hA [0, 1, 2] rfl ads3 (fun H locs hP hD hS => ?_)
        replace hP : va_P G vwCl ([(h, .inr (1, rdF t ((sX1_readNumber z_1 tq sg 1 0 5).2))), (t, .inr (6, txF sa tq)), (sa, .inl (kk 1, 120, .inl sg))]) H := hP
        replace hD : va_D A ([(h, .inr (1, rdF t ((sX1_readNumber z_1 tq sg 1 0 5).2))), (t, .inr (6, txF sa tq)), (sa, .inl (kk 1, 120, .inl sg))]) := hD
        have eS : sX1_readsCommand q tq sg = sX1_readsCommand_z_7 q tq sg z_1 (sX1_readNumber z_1 tq sg 1 0 5) := eS
        generalize sX1_readNumber z_1 tq sg 1 0 5 = z_7 at hP hD eS ⊢
        refine r_put hx hb hts hown hK hP hD hS fl_X1_52 fw_1_4 0 rfl rfl rfl (Nat.le_of_ble_eq_true rfl) dX1_readsCommand_166 (fun H locs hP hD hS => ?_)
        replace hP : va_P G vwCl ([(h, .inr (1, rdF t (upd z_7.2 4 z_7.1))), (t, .inr (6, txF sa tq)), (sa, .inl (kk 1, 120, .inl sg))]) H := hP
        replace hD : va_D A ([(h, .inr (1, rdF t (upd z_7.2 4 z_7.1))), (t, .inr (6, txF sa tq)), (sa, .inl (kk 1, 120, .inl sg))]) := hD
        refine lv_aload_n hx hb dX1_readsCommand_169 rfl (lv_at hl 0 rfl) ?_
        refine r_get (v := .int (z_7.2 2)) hx hb hts hown hK hP fl_X1_25 0 rfl rfl dX1_readsCommand_170 ?_
        refine lv_if_ne (tgt := 180) hx hb dX1_readsCommand_173 (by decide) (fun c_173 => ?_) (fun c_173 => ?_)
        · have eS := eS.trans (if_neg c_173)
          refine lv_iconst (v := 0) hx hb dX1_readsCommand_180 (by decide) ?_
          exact fin_z hx hb hr hlocks hK (vP_eq (congrArg (fun z : Int32 × (Nat → Int32) => ([(h, .inr (1, rdF t z.2)), (t, .inr (6, txF sa tq)), (sa, .inl (kk 1, 120, .inl sg))] : va_W)) eS.symm) hP) (vD_eq (congrArg (fun z : Int32 × (Nat → Int32) => ([(h, .inr (1, rdF t z.2)), (t, .inr (6, txF sa tq)), (sa, .inl (kk 1, 120, .inl sg))] : va_W)) eS.symm) hD) hS (congrArg (fun z : Int32 × (Nat → Int32) => z.1) eS) rfl dX1_readsCommand_181
        · have eS := eS.trans (if_pos c_173)
          refine lv_iconst (v := 1) hx hb dX1_readsCommand_176 (by decide) ?_
          refine lv_goto (tgt := 181) hx hb dX1_readsCommand_177 (by decide) ?_
          exact fin_z hx hb hr hlocks hK (vP_eq (congrArg (fun z : Int32 × (Nat → Int32) => ([(h, .inr (1, rdF t z.2)), (t, .inr (6, txF sa tq)), (sa, .inl (kk 1, 120, .inl sg))] : va_W)) eS.symm) hP) (vD_eq (congrArg (fun z : Int32 × (Nat → Int32) => ([(h, .inr (1, rdF t z.2)), (t, .inr (6, txF sa tq)), (sa, .inl (kk 1, 120, .inl sg))] : va_W)) eS.symm) hD) hS (congrArg (fun z : Int32 × (Nat → Int32) => z.1) eS) rfl dX1_readsCommand_181
      · have eS := eS.trans (if_neg c_54)
        refine lv_iconst (v := 0) hx hb dX1_readsCommand_57 (by decide) ?_
        exact fin_z hx hb hr hlocks hK (vP_eq (congrArg (fun z : Int32 × (Nat → Int32) => ([(h, .inr (1, rdF t z.2)), (t, .inr (6, txF sa tq)), (sa, .inl (kk 1, 120, .inl sg))] : va_W)) eS.symm) hP) (vD_eq (congrArg (fun z : Int32 × (Nat → Int32) => ([(h, .inr (1, rdF t z.2)), (t, .inr (6, txF sa tq)), (sa, .inl (kk 1, 120, .inl sg))] : va_W)) eS.symm) hD) hS (congrArg (fun z : Int32 × (Nat → Int32) => z.1) eS) rfl dX1_readsCommand_58
    · have eS := eS.trans (if_pos c_19)
      refine lv_iconst (v := 0) hx hb dX1_readsCommand_22 (by decide) ?_
      exact fin_z hx hb hr hlocks hK (vP_eq (congrArg (fun z : Int32 × (Nat → Int32) => ([(h, .inr (1, rdF t z.2)), (t, .inr (6, txF sa tq)), (sa, .inl (kk 1, 120, .inl sg))] : va_W)) eS.symm) hP) (vD_eq (congrArg (fun z : Int32 × (Nat → Int32) => ([(h, .inr (1, rdF t z.2)), (t, .inr (6, txF sa tq)), (sa, .inl (kk 1, 120, .inl sg))] : va_W)) eS.symm) hD) hS (congrArg (fun z : Int32 × (Nat → Int32) => z.1) eS) rfl dX1_readsCommand_23
def lp_X1_firstError_8 (q : Nat → Int32) (tq : Nat → Int32) (sg : Nat → Int32) (z_1 : (Nat → Int32)) : Nat → Nat → Int32 → (Nat → Int32) → Int32 × (Nat → Int32)
  | 0, i, r, q1 => (if (q1 2) = 0 then ((-1), q1) else ((q1 1), q1))
  | d + 1, i, r, q1 => (if r = 0 then (if (q1 2) = 0 then ((-1), q1) else ((q1 1), q1)) else ((fun (z_3 : Int32 × (Nat → Int32)) => (lp_X1_firstError_8 q tq sg z_1 d (i + 1) z_3.1 z_3.2)) (sX1_readsCommand q1 tq sg)))
def sX1_firstError_z_1 (q : Nat → Int32) (tq : Nat → Int32) (sg : Nat → Int32) (z_1 : (Nat → Int32)) : Int32 × (Nat → Int32) :=
  (lp_X1_firstError_8 q tq sg z_1 120 0 1 z_1)
def sX1_firstError (q : Nat → Int32) (tq : Nat → Int32) (sg : Nat → Int32) : Int32 × (Nat → Int32) :=
  (sX1_firstError_z_1 q tq sg (sX1_start q tq sg))
set_option maxRecDepth 100000 in
set_option maxHeartbeats 4000000 in
theorem c_X1_firstError (l : Launch) (G : va_G) (kk : Nat → ClassId) (h : Nat) (t : Nat) (sa : Nat) (q : Nat → Int32) (tq : Nat → Int32) (sg : Nat → Int32)  : CC l yX1_firstError cX1_firstError 3 (some .int) (rmO 4 94) [.ref h] G kk ([(h, .inr (1, rdF t q)), (t, .inr (6, txF sa tq)), (sa, .inl (kk 1, 120, .inl sg))]) (QI G kk ([(h, .inr (1, rdF t ((sX1_firstError q tq sg).2))), (t, .inr (6, txF sa tq)), (sa, .inl (kk 1, 120, .inl sg))]) ((sX1_firstError q tq sg).1)) := by
  refine cc_start (by decide +kernel) (Nat.le_of_ble_eq_true rfl) ?_
  intro p e s m below meth c A ls hx hb hr hml hown hts hlocks hA hE hK hP hD hS hl
  have hown : s.vm.findClass RX1 = some m.cls := hown
  have hl : lv_has ls 3 [(0, .ref h)] := hl
  have eS : sX1_firstError q tq sg = sX1_firstError q tq sg := rfl
  refine lv_aload_n hx hb dX1_firstError_0 rfl (lv_at hl 0 rfl) ?_
  refine k_goV (k_runV (rest := []) (As := []) hx hb hml hown hts hK hP hD hS hA hE hl.1 (c_X1_start l G kk h t sa q tq sg ) vl_X1_18 rfl rfl rfl ⟨Nat.le_of_ble_eq_true rfl, Nat.le_of_ble_eq_true rfl, rfl, rfl⟩ [0, 1, 2] rfl rfl ⟨Nat.zero_le _, Nat.zero_le _⟩ rfl (Nat.le_of_ble_eq_true rfl) dX1_firstError_1) hP hD hS hA [0, 1, 2] rfl ads3 (fun H locs hP hD hS => ?_)
  replace hP : va_P G vwCl ([(h, .inr (1, rdF t (sX1_start q tq sg))), (t, .inr (6, txF sa tq)), (sa, .inl (kk 1, 120, .inl sg))]) H := hP
  replace hD : va_D A ([(h, .inr (1, rdF t (sX1_start q tq sg))), (t, .inr (6, txF sa tq)), (sa, .inl (kk 1, 120, .inl sg))]) := hD
  have eS : sX1_firstError q tq sg = sX1_firstError_z_1 q tq sg (sX1_start q tq sg) := eS
  generalize sX1_start q tq sg = z_1 at hP hD eS ⊢
  refine lv_iconst (v := 1) hx hb dX1_firstError_4 (by decide) ?_
  refine lv_istore_n (lv' := [(1, .int 1), (0, .ref h)]) hx hb dX1_firstError_5 rfl hl (by decide) rfl (fun ls hl => ?_)
  refine lv_iconst (v := 0) hx hb dX1_firstError_6 (by decide) ?_
  refine lv_istore_n (lv' := [(2, .int 0), (1, .int 1), (0, .ref h)]) hx hb dX1_firstError_7 rfl hl (by decide) rfl (fun ls hl => ?_)
  have L_4 : ∀ (d : Nat) (i : Nat) (r : Int32) (q1 : Nat → Int32) (hd : i + d = 120) (eS : sX1_firstError q tq sg = lp_X1_firstError_8 q tq sg z_1 d i r q1) (H : Heap) (locs : List Loc) (ls : Array Slot) (hP : va_P G vwCl ([(h, .inr (1, rdF t q1)), (t, .inr (6, txF sa tq)), (sa, .inl (kk 1, 120, .inl sg))]) H) (hD : va_D A ([(h, .inr (1, rdF t q1)), (t, .inr (6, txF sa tq)), (sa, .inl (kk 1, 120, .inl sg))])) (hS : va_S A s.heap H locs) (hl : lv_has ls 3 [(0, .ref h), (2, .int (nI i)), (1, .int r)]), GO p l e (rmO 4 94) s m ([.ref h] : List Value).toArray below meth c A (QI G kk ([(h, .inr (1, rdF t ((sX1_firstError q tq sg).2))), (t, .inr (6, txF sa tq)), (sa, .inl (kk 1, 120, .inl sg))]) ((sX1_firstError q tq sg).1)) H locs (F0 m 8 ls []) := by
    intro d
    induction d with
    | zero =>
      intro i r q1 hd eS H locs ls hP hD hS hl
      refine lv_iload_n hx hb dX1_firstError_8 rfl (lv_at hl 1 rfl) ?_
      refine lv_bipush (v := 120) hx hb dX1_firstError_9 (by decide) ?_
      refine lv_icmp_ge (tgt := 29) hx hb dX1_firstError_11 (by decide) (fun c_11 => ?_) (fun c_11 => absurd (nI_le (a := 120) (b := i) (by omega) (by omega)) c_11)
      refine lv_aload_n hx hb dX1_firstError_29 rfl (lv_at hl 0 rfl) ?_
      refine r_get (v := .int (q1 2)) hx hb hts hown hK hP fl_X1_25 0 rfl rfl dX1_firstError_30 ?_
      refine lv_if_eq (tgt := 43) hx hb dX1_firstError_33 (by decide) (fun c_33 => ?_) (fun c_33 => ?_)
      · have eS := eS.trans (if_pos c_33)
        refine lv_iconst (v := (-1)) hx hb dX1_firstError_43 (by decide) ?_
        exact fin_i hx hb hr hlocks hK (vP_eq (congrArg (fun z : Int32 × (Nat → Int32) => ([(h, .inr (1, rdF t z.2)), (t, .inr (6, txF sa tq)), (sa, .inl (kk 1, 120, .inl sg))] : va_W)) eS.symm) hP) (vD_eq (congrArg (fun z : Int32 × (Nat → Int32) => ([(h, .inr (1, rdF t z.2)), (t, .inr (6, txF sa tq)), (sa, .inl (kk 1, 120, .inl sg))] : va_W)) eS.symm) hD) hS (congrArg (fun z : Int32 × (Nat → Int32) => z.1) eS) dX1_firstError_44
      · have eS := eS.trans (if_neg c_33)
        refine lv_aload_n hx hb dX1_firstError_36 rfl (lv_at hl 0 rfl) ?_
        refine r_get (v := .int (q1 1)) hx hb hts hown hK hP fl_X1_29 0 rfl rfl dX1_firstError_37 ?_
        refine lv_goto (tgt := 44) hx hb dX1_firstError_40 (by decide) ?_
        exact fin_i hx hb hr hlocks hK (vP_eq (congrArg (fun z : Int32 × (Nat → Int32) => ([(h, .inr (1, rdF t z.2)), (t, .inr (6, txF sa tq)), (sa, .inl (kk 1, 120, .inl sg))] : va_W)) eS.symm) hP) (vD_eq (congrArg (fun z : Int32 × (Nat → Int32) => ([(h, .inr (1, rdF t z.2)), (t, .inr (6, txF sa tq)), (sa, .inl (kk 1, 120, .inl sg))] : va_W)) eS.symm) hD) hS (congrArg (fun z : Int32 × (Nat → Int32) => z.1) eS) dX1_firstError_44
    | succ d ih =>
      intro i r q1 hd eS H locs ls hP hD hS hl
      refine lv_iload_n hx hb dX1_firstError_8 rfl (lv_at hl 1 rfl) ?_
      refine lv_bipush (v := 120) hx hb dX1_firstError_9 (by decide) ?_
      refine lv_icmp_ge (tgt := 29) hx hb dX1_firstError_11 (by decide) (fun c_11 => absurd c_11 (nI_ge (a := i) (b := 120) (by omega) (by omega))) (fun c_11 => ?_)
      refine lv_iload_n hx hb dX1_firstError_14 rfl (lv_at hl 2 rfl) ?_
      refine lv_if_eq (tgt := 29) hx hb dX1_firstError_15 (by decide) (fun c_15 => ?_) (fun c_15 => ?_)
      · have eS := eS.trans (if_pos c_15)
        refine lv_aload_n hx hb dX1_firstError_29 rfl (lv_at hl 0 rfl) ?_
        refine r_get (v := .int (q1 2)) hx hb hts hown hK hP fl_X1_25 0 rfl rfl dX1_firstError_30 ?_
        refine lv_if_eq (tgt := 43) hx hb dX1_firstError_33 (by decide) (fun c_33 => ?_) (fun c_33 => ?_)
        · have eS := eS.trans (if_pos c_33)
          refine lv_iconst (v := (-1)) hx hb dX1_firstError_43 (by decide) ?_
          exact fin_i hx hb hr hlocks hK (vP_eq (congrArg (fun z : Int32 × (Nat → Int32) => ([(h, .inr (1, rdF t z.2)), (t, .inr (6, txF sa tq)), (sa, .inl (kk 1, 120, .inl sg))] : va_W)) eS.symm) hP) (vD_eq (congrArg (fun z : Int32 × (Nat → Int32) => ([(h, .inr (1, rdF t z.2)), (t, .inr (6, txF sa tq)), (sa, .inl (kk 1, 120, .inl sg))] : va_W)) eS.symm) hD) hS (congrArg (fun z : Int32 × (Nat → Int32) => z.1) eS) dX1_firstError_44
        · have eS := eS.trans (if_neg c_33)
          refine lv_aload_n hx hb dX1_firstError_36 rfl (lv_at hl 0 rfl) ?_
          refine r_get (v := .int (q1 1)) hx hb hts hown hK hP fl_X1_29 0 rfl rfl dX1_firstError_37 ?_
          refine lv_goto (tgt := 44) hx hb dX1_firstError_40 (by decide) ?_
          exact fin_i hx hb hr hlocks hK (vP_eq (congrArg (fun z : Int32 × (Nat → Int32) => ([(h, .inr (1, rdF t z.2)), (t, .inr (6, txF sa tq)), (sa, .inl (kk 1, 120, .inl sg))] : va_W)) eS.symm) hP) (vD_eq (congrArg (fun z : Int32 × (Nat → Int32) => ([(h, .inr (1, rdF t z.2)), (t, .inr (6, txF sa tq)), (sa, .inl (kk 1, 120, .inl sg))] : va_W)) eS.symm) hD) hS (congrArg (fun z : Int32 × (Nat → Int32) => z.1) eS) dX1_firstError_44
      · have eS := eS.trans (if_neg c_15)
        refine lv_aload_n hx hb dX1_firstError_18 rfl (lv_at hl 0 rfl) ?_
        refine k_goI (k_runV (rest := []) (As := []) hx hb hml hown hts hK hP hD hS hA hE hl.1 (c_X1_readsCommand l G kk h t sa q1 tq sg ) vl_X1_21 rfl rfl rfl ⟨Nat.le_of_ble_eq_true rfl, Nat.le_of_ble_eq_true rfl, rfl, rfl⟩ [0, 1, 2] rfl rfl ⟨Nat.zero_le _, Nat.zero_le _⟩ rfl (Nat.le_of_ble_eq_true rfl) dX1_firstError_19) hP hD hS hA [0, 1, 2] rfl ads3 (fun H locs hP hD hS => ?_)
        replace hP : va_P G vwCl ([(h, .inr (1, rdF t ((sX1_readsCommand q1 tq sg).2))), (t, .inr (6, txF sa tq)), (sa, .inl (kk 1, 120, .inl sg))]) H := hP
        replace hD : va_D A ([(h, .inr (1, rdF t ((sX1_readsCommand q1 tq sg).2))), (t, .inr (6, txF sa tq)), (sa, .inl (kk 1, 120, .inl sg))]) := hD
        have eS : sX1_firstError q tq sg = (fun (z_3 : Int32 × (Nat → Int32)) => (lp_X1_firstError_8 q tq sg z_1 d (i + 1) z_3.1 z_3.2)) (sX1_readsCommand q1 tq sg) := eS
        generalize sX1_readsCommand q1 tq sg = z_3 at hP hD eS ⊢
        refine lv_istore_n (lv' := [(1, .int z_3.1), (0, .ref h), (2, .int (nI i))]) hx hb dX1_firstError_22 rfl hl (by decide) rfl (fun ls hl => ?_)
        refine lv_iinc (v := (nI (i + 1))) (lv' := [(2, .int (nI (i + 1))), (1, .int z_3.1), (0, .ref h)]) hx hb dX1_firstError_23 hl (k := 2) rfl (nI_add i 1) (by decide) rfl (fun ls hl => ?_)
        refine lv_goto (tgt := 8) hx hb dX1_firstError_26 (by decide) ?_
        exact ih (i + 1) z_3.1 z_3.2 (by omega) eS _ _ ls hP hD hS (lv_sub hl [2, 0, 1] rfl)
  exact L_4 120 0 1 z_1 (Nat.zero_add _) eS _ _ ls hP hD hS (lv_sub hl [2, 0, 1] rfl)
