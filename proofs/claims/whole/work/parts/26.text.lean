theorem at_l {q : Nat → Int32} {sz p : Nat} (hs : q 2 = nI sz) (hz : sz ≤ 120) (hp : p < 2 ^ 31) (h : ¬ q 2 ≤ nI p) : p < sz := by
  rcases Nat.lt_or_ge p sz with r | r
  · exact r
  · rw [hs] at h
    exact absurd (nI_le r hp) h
def UT : Nat → Int32
  | 0 => 0
  | 1 => 1
  | 2 => 10
  | 3 => 100
  | _ => 1000
theorem ut_m {u : Int32} {i : Nat} (h : u = UT i) (h1 : 1 ≤ i) (h4 : i < 4) : u * 10 = UT (i + 1) := by
  subst h
  match i, h1, h4 with
  | 1, _, _ => rfl
  | 2, _, _ => rfl
  | 3, _, _ => rfl
theorem ut_z {u : Int32} (h : u = UT 0) : u ≤ 0 := by subst h; decide
theorem ut_s {u : Int32} {d : Nat} (h : u = UT (d + 1)) (h4 : d < 4) : ¬ u ≤ 0 := by
  subst h
  match d, h4 with
  | 0, _ => decide
  | 1, _ => decide
  | 2, _ => decide
  | 3, _ => decide
theorem ut_d {u : Int32} {d : Nat} (h : u = UT (d + 1)) (h4 : d < 4) : u / 10 = UT d := by
  subst h
  match d, h4 with
  | 0, _ => decide
  | 1, _ => decide
  | 2, _ => decide
  | 3, _ => decide
def sX8_at (q : Nat → Int32) (tx : Nat → Int32) (sp : Nat) : Int32 :=
  (if (q 2) ≤ (nI sp) then (-1) else (tx sp))
set_option maxRecDepth 100000 in
set_option maxHeartbeats 4000000 in
theorem c_X8_at (l : Launch) (G : va_G) (kk : Nat → ClassId) (h : Nat) (b : Nat → Nat) (q : Nat → Int32) (tx : Nat → Int32) (sz : Nat) (sp : Nat) (hs : q 2 = nI sz) (hz : sz ≤ 120) (hp : sp < 2 ^ 31) : CC l yX8_at cX8_at 2 (some .int) (rmO 0 0) [.ref h, .int (nI sp)] G kk ([(h, .inr (8, moF b q)), ((b 1), .inl (kk 0, 120, .inl tx))]) (QI G kk ([(h, .inr (8, moF b q)), ((b 1), .inl (kk 0, 120, .inl tx))]) (sX8_at q tx sp)) := by
  refine cc_start (by decide +kernel) (Nat.le_of_ble_eq_true rfl) ?_
  intro p e s m below meth c A ls hx hb hr hml hown hts hlocks hA hE hK hP hD hS hl
  have hown : s.vm.findClass RX8 = some m.cls := hown
  have hl : lv_has ls 2 [(0, .ref h), (1, .int (nI sp))] := hl
  have eS : sX8_at q tx sp = sX8_at q tx sp := rfl
  refine lv_iload_n hx hb dX8_at_0 rfl (lv_at hl 1 rfl) ?_
  refine lv_aload_n hx hb dX8_at_1 rfl (lv_at hl 0 rfl) ?_
  refine r_get (v := .int (q 2)) hx hb hts hown hK hP fl_X8_116 0 rfl rfl dX8_at_2 ?_
  refine lv_icmp_ge (tgt := 17) hx hb dX8_at_5 (by decide) (fun c_5 => ?_) (fun c_5 => ?_)
  · have eS := eS.trans (if_pos c_5)
    refine lv_iconst (v := (-1)) hx hb dX8_at_17 (by decide) ?_
    exact fin_i hx hb hr hlocks hK hP hD hS eS dX8_at_18
  · have eS := eS.trans (if_neg c_5)
    have hps := at_l hs hz hp c_5
    refine lv_aload_n hx hb dX8_at_8 rfl (lv_at hl 0 rfl) ?_
    refine r_get (v := .ref (b 1)) hx hb hts hown hK hP fl_X8_7 0 rfl rfl dX8_at_9 ?_
    refine lv_iload_n hx hb dX8_at_12 rfl (lv_at hl 1 rfl) ?_
    refine r_iald hx hb hK hP 1 rfl sp rfl (by omega) (by decide) dX8_at_13 ?_
    refine lv_goto (tgt := 18) hx hb dX8_at_14 (by decide) ?_
    exact fin_i hx hb hr hlocks hK hP hD hS eS dX8_at_18
