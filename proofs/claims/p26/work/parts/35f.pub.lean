def sX7_slotAt (x : Int32) : Option Nat :=
  (if x = 0 then (some 6) else (if x = 1 then (some 7) else none))
set_option maxRecDepth 100000 in
set_option maxHeartbeats 4000000 in
theorem c_X7_slotAt (l : Launch) (G : va_G) (kk : Nat → ClassId) (h : Nat) (ad : Nat → Nat → Nat) (x : Int32)  : CC l yX7_slotAt cX7_slotAt 2 (some (.object "MeterRooms$Slot")) (rmO 0 0) [.ref h, .int x] G kk ([(h, .inr (7, mrG ad))]) (QQ G kk ([(h, .inr (7, mrG ad))]) (Option.map (fun k => ((ad k) 0)) (sX7_slotAt x))) := by
  refine cc_start (by decide +kernel) (Nat.le_of_ble_eq_true rfl) ?_
  intro p e s m below meth c A ls hx hb hr hml hown hts hlocks hA hE hK hP hD hS hl
  have hown : s.vm.findClass RX7 = some m.cls := hown
  have hl : lv_has ls 2 [(0, .ref h), (1, .int x)] := hl
  have eS : sX7_slotAt x = sX7_slotAt x := rfl
  refine lv_iload_n hx hb dX7_slotAt_0 rfl (lv_at hl 1 rfl) ?_
  refine lv_if_ne (tgt := 9) hx hb dX7_slotAt_1 (by decide) (fun c_1 => ?_) (fun c_1 => ?_)
  · have eS := eS.trans (if_neg c_1)
    refine lv_iload_n hx hb dX7_slotAt_9 rfl (lv_at hl 1 rfl) ?_
    refine lv_iconst (v := 1) hx hb dX7_slotAt_10 (by decide) ?_
    refine lv_icmp_ne (tgt := 21) hx hb dX7_slotAt_11 (by decide) (fun c_11 => ?_) (fun c_11 => ?_)
    · have eS := eS.trans (if_neg c_11)
      refine lv_null hx hb dX7_slotAt_21 ?_
      exact fin_q (v := (Option.map (fun k => ((ad k) 0)) none)) hx hb hr hlocks hK hP hD hS (congrArg (fun z : Option Nat => (Option.map (fun k => ((ad k) 0)) z)) eS) dX7_slotAt_22
    · have eS := eS.trans (if_pos c_11)
      refine lv_aload_n hx hb dX7_slotAt_14 rfl (lv_at hl 0 rfl) ?_
      refine r_get (v := .ref ((ad 7) 0)) hx hb hts hown hK hP fl_X7_43 0 rfl rfl dX7_slotAt_15 ?_
      refine lv_goto (tgt := 22) hx hb dX7_slotAt_18 (by decide) ?_
      exact fin_q (v := (Option.map (fun k => ((ad k) 0)) (some 7))) hx hb hr hlocks hK hP hD hS (congrArg (fun z : Option Nat => (Option.map (fun k => ((ad k) 0)) z)) eS) dX7_slotAt_22
  · have eS := eS.trans (if_pos c_1)
    refine lv_aload_n hx hb dX7_slotAt_4 rfl (lv_at hl 0 rfl) ?_
    refine r_get (v := .ref ((ad 6) 0)) hx hb hts hown hK hP fl_X7_39 0 rfl rfl dX7_slotAt_5 ?_
    exact fin_q (v := (Option.map (fun k => ((ad k) 0)) (some 6))) hx hb hr hlocks hK hP hD hS (congrArg (fun z : Option Nat => (Option.map (fun k => ((ad k) 0)) z)) eS) dX7_slotAt_8
theorem slot_0 {x : Int32} (h : x = 0) : sX7_slotAt x = some 6 := by rw [h]; rfl
theorem slot_1 {x : Int32} (h : x = 1) : sX7_slotAt x = some 7 := by rw [h]; rfl
theorem slot_n {x : Int32} (h : ¬ x = 0) (h1 : ¬ x = 1) : sX7_slotAt x = none := by
  unfold sX7_slotAt
  simp only [h, h1, if_false]
