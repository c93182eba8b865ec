theorem r_cast {p : Program} {l : Launch} {e : Env} {R : Room} {s : State} {m : MethodId} {args : Array Value} {below : List Frame} {meth : Method} {c : Code} {H : Heap} {locs : List Loc} {cells slots : Nat} {Q : State → Prop} {cc : ByteArray} {pc : Nat} {ls : Array Slot} {rest : List Value} {G : va_G} {kk : Nat → ClassId} {A : Nat → Prop} {ws : va_W} {a n : Nat} {f : Nat → Int32} {i x : Int32} {H0 : Heap} (hx : p.tables.exec = Jvm.exec) (hb : c.code = cc) (hK : va_K G vwCl (TYS kk) s) (hP : va_P G vwCl ws H) (hD : va_D A ws) (hS : va_S A H0 H locs) (q0 : Nat) (ha : ws[q0]? = some (a, .inl (kk 1, n, .inl f))) (k : Nat) (e1 : i = nI k) (h : k < n) (hn : n < 2 ^ 31) (hz : vp_nar .char x = x) (hdg : decode cc pc = .ok (.castore, 1))
    (kk1 : ∀ (H1 : Heap) (locs1 : List Loc), va_P G vwCl (ws.set q0 (a, .inl (kk 1, n, .inl (upd f k x)))) H1 → va_D A (ws.set q0 (a, .inl (kk 1, n, .inl (upd f k x)))) → va_S A H0 H1 locs1 → W p l e R s m args below meth c H1 locs1 cells slots Q (F0 m (pc + 1) ls rest)) : W p l e R s m args below meth c H locs cells slots Q (F0 m pc ls (.int x :: .int i :: .ref a :: rest)) :=
  va_cast hx hb hK hP hD hS q0 1 ha rfl (ix_in e1 h hn) hdg (by rw [ix_cl e1 h hn, hz]; exact kk1)
def sX6_isFull (q : Nat → Int32) (sg : Nat → Int32) : Int32 :=
  (if (q 1) < (nI 120) then 0 else 1)
set_option maxRecDepth 100000 in
set_option maxHeartbeats 4000000 in
theorem c_X6_isFull (l : Launch) (G : va_G) (kk : Nat → ClassId) (h : Nat) (sa : Nat) (q : Nat → Int32) (sg : Nat → Int32)  : CC l yX6_isFull cX6_isFull 1 (some .boolean) (rmO 0 0) [.ref h] G kk ([(h, .inr (6, txF sa q)), (sa, .inl (kk 1, 120, .inl sg))]) (QI G kk ([(h, .inr (6, txF sa q)), (sa, .inl (kk 1, 120, .inl sg))]) (sX6_isFull q sg)) := by
  refine cc_start (by decide +kernel) (Nat.le_of_ble_eq_true rfl) ?_
  intro p e s m below meth c A ls hx hb hr hml hown hts hlocks hA hE hK hP hD hS hl
  have hown : s.vm.findClass RX6 = some m.cls := hown
  have hl : lv_has ls 1 [(0, .ref h)] := hl
  have eS : sX6_isFull q sg = sX6_isFull q sg := rfl
  refine lv_aload_n hx hb dX6_isFull_0 rfl (lv_at hl 0 rfl) ?_
  refine r_get (v := .int (q 1)) hx hb hts hown hK hP fl_X6_15 0 rfl rfl dX6_isFull_1 ?_
  refine lv_aload_n hx hb dX6_isFull_4 rfl (lv_at hl 0 rfl) ?_
  refine r_get (v := .ref sa) hx hb hts hown hK hP fl_X6_9 0 rfl rfl dX6_isFull_5 ?_
  refine r_alen (t0 := 1) hx hb hK hP 1 rfl rfl dX6_isFull_8 ?_
  refine lv_icmp_lt (tgt := 16) hx hb dX6_isFull_9 (by decide) (fun c_9 => ?_) (fun c_9 => ?_)
  · have eS := eS.trans (if_pos c_9)
    refine lv_iconst (v := 0) hx hb dX6_isFull_16 (by decide) ?_
    exact fin_z hx hb hr hlocks hK hP hD hS eS rfl dX6_isFull_17
  · have eS := eS.trans (if_neg c_9)
    refine lv_iconst (v := 1) hx hb dX6_isFull_12 (by decide) ?_
    refine lv_goto (tgt := 17) hx hb dX6_isFull_13 (by decide) ?_
    exact fin_z hx hb hr hlocks hK hP hD hS eS rfl dX6_isFull_17
def sX6_lengthen (q : Nat → Int32) (sg : Nat → Int32) (x : Int32) : Int32 × (Nat → Int32) × (Nat → Int32) :=
  (if (q 1) < 0 then ((q 1), q, sg) else (if (nI 120) ≤ (q 1) then ((q 1), q, sg) else (((q 1) + 1), (upd q 1 ((q 1) + 1)), (upd sg ((q 1).toNatClampNeg) ((x.toUInt32 % 65536).toInt32)))))
set_option maxRecDepth 100000 in
set_option maxHeartbeats 4000000 in
theorem c_X6_lengthen (l : Launch) (G : va_G) (kk : Nat → ClassId) (h : Nat) (sa : Nat) (q : Nat → Int32) (sg : Nat → Int32) (x : Int32)  : CC l yX6_lengthen cX6_lengthen 2 (some .int) (rmO 0 0) [.ref h, .int x] G kk ([(h, .inr (6, txF sa q)), (sa, .inl (kk 1, 120, .inl sg))]) (QI G kk ([(h, .inr (6, txF sa ((sX6_lengthen q sg x).2.1))), (sa, .inl (kk 1, 120, .inl ((sX6_lengthen q sg x).2.2)))]) ((sX6_lengthen q sg x).1)) := by
  refine cc_start (by decide +kernel) (Nat.le_of_ble_eq_true rfl) ?_
  intro p e s m below meth c A ls hx hb hr hml hown hts hlocks hA hE hK hP hD hS hl
  have hown : s.vm.findClass RX6 = some m.cls := hown
  have hl : lv_has ls 2 [(0, .ref h), (1, .int x)] := hl
  have eS : sX6_lengthen q sg x = sX6_lengthen q sg x := rfl
  refine lv_aload_n hx hb dX6_lengthen_0 rfl (lv_at hl 0 rfl) ?_
  refine r_get (v := .int (q 1)) hx hb hts hown hK hP fl_X6_15 0 rfl rfl dX6_lengthen_1 ?_
  refine lv_if_lt (tgt := 40) hx hb dX6_lengthen_4 (by decide) (fun c_4 => ?_) (fun c_4 => ?_)
  · have eS := eS.trans (if_pos c_4)
    refine lv_aload_n hx hb dX6_lengthen_40 rfl (lv_at hl 0 rfl) ?_
    refine r_get (v := .int (q 1)) hx hb hts hown hK hP fl_X6_15 0 rfl rfl dX6_lengthen_41 ?_
    exact fin_i hx hb hr hlocks hK (vP_eq (congrArg (fun z : Int32 × (Nat → Int32) × (Nat → Int32) => ([(h, .inr (6, txF sa z.2.1)), (sa, .inl (kk 1, 120, .inl z.2.2))] : va_W)) eS.symm) hP) (vD_eq (congrArg (fun z : Int32 × (Nat → Int32) × (Nat → Int32) => ([(h, .inr (6, txF sa z.2.1)), (sa, .inl (kk 1, 120, .inl z.2.2))] : va_W)) eS.symm) hD) hS (congrArg (fun z : Int32 × (Nat → Int32) × (Nat → Int32) => z.1) eS) dX6_lengthen_44
  · have eS := eS.trans (if_neg c_4)
    refine lv_aload_n hx hb dX6_lengthen_7 rfl (lv_at hl 0 rfl) ?_
    refine r_get (v := .int (q 1)) hx hb hts hown hK hP fl_X6_15 0 rfl rfl dX6_lengthen_8 ?_
    refine lv_aload_n hx hb dX6_lengthen_11 rfl (lv_at hl 0 rfl) ?_
    refine r_get (v := .ref sa) hx hb hts hown hK hP fl_X6_9 0 rfl rfl dX6_lengthen_12 ?_
    refine r_alen (t0 := 1) hx hb hK hP 1 rfl rfl dX6_lengthen_15 ?_
    refine lv_icmp_ge (tgt := 40) hx hb dX6_lengthen_16 (by decide) (fun c_16 => ?_) (fun c_16 => ?_)
    · have eS := eS.trans (if_pos c_16)
      refine lv_aload_n hx hb dX6_lengthen_40 rfl (lv_at hl 0 rfl) ?_
      refine r_get (v := .int (q 1)) hx hb hts hown hK hP fl_X6_15 0 rfl rfl dX6_lengthen_41 ?_
      exact fin_i hx hb hr hlocks hK (vP_eq (congrArg (fun z : Int32 × (Nat → Int32) × (Nat → Int32) => ([(h, .inr (6, txF sa z.2.1)), (sa, .inl (kk 1, 120, .inl z.2.2))] : va_W)) eS.symm) hP) (vD_eq (congrArg (fun z : Int32 × (Nat → Int32) × (Nat → Int32) => ([(h, .inr (6, txF sa z.2.1)), (sa, .inl (kk 1, 120, .inl z.2.2))] : va_W)) eS.symm) hD) hS (congrArg (fun z : Int32 × (Nat → Int32) × (Nat → Int32) => z.1) eS) dX6_lengthen_44
    · have eS := eS.trans (if_neg c_16)
      have e1 := tc_e c_4
      have e2 := tc_l c_4 c_16 (by decide)
      refine lv_aload_n hx hb dX6_lengthen_19 rfl (lv_at hl 0 rfl) ?_
      refine r_get (v := .ref sa) hx hb hts hown hK hP fl_X6_9 0 rfl rfl dX6_lengthen_20 ?_
      refine lv_aload_n hx hb dX6_lengthen_23 rfl (lv_at hl 0 rfl) ?_
      refine r_get (v := .int (q 1)) hx hb hts hown hK hP fl_X6_15 0 rfl rfl dX6_lengthen_24 ?_
      refine top_eq (y := (nI ((q 1).toNatClampNeg))) (e1) ?_
      refine lv_iload_n hx hb dX6_lengthen_27 rfl (lv_at hl 1 rfl) ?_
      refine lv_i2c (v := ((x.toUInt32 % 65536).toInt32)) hx hb dX6_lengthen_28 rfl ?_
      refine r_cast hx hb hK hP hD hS 1 rfl ((q 1).toNatClampNeg) rfl (by omega) (by decide) (pk_vc _) dX6_lengthen_29 (fun H locs hP hD hS => ?_)
      replace hP : va_P G vwCl ([(h, .inr (6, txF sa q)), (sa, .inl (kk 1, 120, .inl (upd sg ((q 1).toNatClampNeg) ((x.toUInt32 % 65536).toInt32))))]) H := hP
      replace hD : va_D A ([(h, .inr (6, txF sa q)), (sa, .inl (kk 1, 120, .inl (upd sg ((q 1).toNatClampNeg) ((x.toUInt32 % 65536).toInt32))))]) := hD
      refine lv_aload_n hx hb dX6_lengthen_30 rfl (lv_at hl 0 rfl) ?_
      refine lv_dup hx hb dX6_lengthen_31 rfl ?_
      refine r_get (v := .int (q 1)) hx hb hts hown hK hP fl_X6_15 0 rfl rfl dX6_lengthen_32 ?_
      refine lv_iconst (v := 1) hx hb dX6_lengthen_35 (by decide) ?_
      refine lv_iadd hx hb dX6_lengthen_36 ?_
      refine r_put hx hb hts hown hK hP hD hS fl_X6_15 fw_6_1 0 rfl rfl rfl (Nat.le_of_ble_eq_true rfl) dX6_lengthen_37 (fun H locs hP hD hS => ?_)
      replace hP : va_P G vwCl ([(h, .inr (6, txF sa (upd q 1 ((q 1) + 1)))), (sa, .inl (kk 1, 120, .inl (upd sg ((q 1).toNatClampNeg) ((x.toUInt32 % 65536).toInt32))))]) H := hP
      replace hD : va_D A ([(h, .inr (6, txF sa (upd q 1 ((q 1) + 1)))), (sa, .inl (kk 1, 120, .inl (upd sg ((q 1).toNatClampNeg) ((x.toUInt32 % 65536).toInt32))))]) := hD
      refine lv_aload_n hx hb dX6_lengthen_40 rfl (lv_at hl 0 rfl) ?_
      refine r_get (v := .int ((q 1) + 1)) hx hb hts hown hK hP fl_X6_15 0 rfl rfl dX6_lengthen_41 ?_
      exact fin_i hx hb hr hlocks hK (vP_eq (congrArg (fun z : Int32 × (Nat → Int32) × (Nat → Int32) => ([(h, .inr (6, txF sa z.2.1)), (sa, .inl (kk 1, 120, .inl z.2.2))] : va_W)) eS.symm) hP) (vD_eq (congrArg (fun z : Int32 × (Nat → Int32) × (Nat → Int32) => ([(h, .inr (6, txF sa z.2.1)), (sa, .inl (kk 1, 120, .inl z.2.2))] : va_W)) eS.symm) hD) hS (congrArg (fun z : Int32 × (Nat → Int32) × (Nat → Int32) => z.1) eS) dX6_lengthen_44
