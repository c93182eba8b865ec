def sX8_roomOn_j356 (jb : Nat → Int32) (f : Nat → Int32) (i : Nat) (x_1 : Int32) (x_2 : Int32) (x_3 : Int32) (x_4 : Int32) (x_5 : Int32) (x_6 : Int32) (z_7 : (Nat → Int32)) (x_9 : Int32) (x_10 : Int32) (z_11 : (Nat → Int32)) (x_12 : Int32) (z_13 : (Nat → Int32)) (x_14 : Int32) (x_15 : Int32) (x_16 : Int32) : (Nat → Int32) :=
  (if (sX8_isWarm (upd (upd (upd z_13 6 ((z_13 6) + x_14)) 7 ((z_13 7) + x_15)) 8 ((z_13 8) + x_16)) i) = 0 then (upd (upd (upd (upd z_13 6 ((z_13 6) + x_14)) 7 ((z_13 7) + x_15)) 8 ((z_13 8) + x_16)) 9 ((z_13 9) + 0)) else (upd (upd (upd (upd z_13 6 ((z_13 6) + x_14)) 7 ((z_13 7) + x_15)) 8 ((z_13 8) + x_16)) 9 ((z_13 9) + 1)))
def sX8_roomOn_j333 (jb : Nat → Int32) (f : Nat → Int32) (i : Nat) (x_1 : Int32) (x_2 : Int32) (x_3 : Int32) (x_4 : Int32) (x_5 : Int32) (x_6 : Int32) (z_7 : (Nat → Int32)) (x_9 : Int32) (x_10 : Int32) (z_11 : (Nat → Int32)) (x_12 : Int32) (z_13 : (Nat → Int32)) (x_14 : Int32) (x_15 : Int32) : (Nat → Int32) :=
  (sX8_roomOn_j356 jb f i x_1 x_2 x_3 x_4 x_5 x_6 z_7 x_9 x_10 z_11 x_12 z_13 x_14 x_15 (if (jb i) = 6 then 1 else 0))
def sX8_roomOn_j311 (jb : Nat → Int32) (f : Nat → Int32) (i : Nat) (x_1 : Int32) (x_2 : Int32) (x_3 : Int32) (x_4 : Int32) (x_5 : Int32) (x_6 : Int32) (z_7 : (Nat → Int32)) (x_9 : Int32) (x_10 : Int32) (z_11 : (Nat → Int32)) (x_12 : Int32) (z_13 : (Nat → Int32)) (x_14 : Int32) : (Nat → Int32) :=
  (sX8_roomOn_j333 jb f i x_1 x_2 x_3 x_4 x_5 x_6 z_7 x_9 x_10 z_11 x_12 z_13 x_14 (if (jb i) = 4 then 1 else 0))
def sX8_roomOn_z_13 (jb : Nat → Int32) (f : Nat → Int32) (i : Nat) (x_1 : Int32) (x_2 : Int32) (x_3 : Int32) (x_4 : Int32) (x_5 : Int32) (x_6 : Int32) (z_7 : (Nat → Int32)) (x_9 : Int32) (x_10 : Int32) (z_11 : (Nat → Int32)) (x_12 : Int32) (z_13 : (Nat → Int32)) : (Nat → Int32) :=
  (sX8_roomOn_j311 jb f i x_1 x_2 x_3 x_4 x_5 x_6 z_7 x_9 x_10 z_11 x_12 z_13 (if x_3 = 0 then 0 else 1))
def sX8_roomOn_j292 (jb : Nat → Int32) (f : Nat → Int32) (i : Nat) (x_1 : Int32) (x_2 : Int32) (x_3 : Int32) (x_4 : Int32) (x_5 : Int32) (x_6 : Int32) (z_7 : (Nat → Int32)) (x_9 : Int32) (x_10 : Int32) (z_11 : (Nat → Int32)) (x_12 : Int32) : (Nat → Int32) :=
  (sX8_roomOn_z_13 jb f i x_1 x_2 x_3 x_4 x_5 x_6 z_7 x_9 x_10 z_11 x_12 (sX8_lay z_11 i 7 ((sX8_of z_11 i 7) + x_12)))
def sX8_roomOn_z_11 (jb : Nat → Int32) (f : Nat → Int32) (i : Nat) (x_1 : Int32) (x_2 : Int32) (x_3 : Int32) (x_4 : Int32) (x_5 : Int32) (x_6 : Int32) (z_7 : (Nat → Int32)) (x_9 : Int32) (x_10 : Int32) (z_11 : (Nat → Int32)) : (Nat → Int32) :=
  (sX8_roomOn_j292 jb f i x_1 x_2 x_3 x_4 x_5 x_6 z_7 x_9 x_10 z_11 (if x_2 = 0 then 0 else 1))
def sX8_roomOn_j261 (jb : Nat → Int32) (f : Nat → Int32) (i : Nat) (x_1 : Int32) (x_2 : Int32) (x_3 : Int32) (x_4 : Int32) (x_5 : Int32) (x_6 : Int32) (z_7 : (Nat → Int32)) (x_9 : Int32) (x_10 : Int32) : (Nat → Int32) :=
  (sX8_roomOn_z_11 jb f i x_1 x_2 x_3 x_4 x_5 x_6 z_7 x_9 x_10 (sX8_lay z_7 i 5 (sX8_clamp (((sX8_of z_7 i 5) + x_9) + x_10) 0 100)))
def sX8_roomOn_j251 (jb : Nat → Int32) (f : Nat → Int32) (i : Nat) (x_1 : Int32) (x_2 : Int32) (x_3 : Int32) (x_4 : Int32) (x_5 : Int32) (x_6 : Int32) (z_7 : (Nat → Int32)) (x_9 : Int32) : (Nat → Int32) :=
  (sX8_roomOn_j261 jb f i x_1 x_2 x_3 x_4 x_5 x_6 z_7 x_9 (if x_1 = 0 then 0 else 2))
def sX8_roomOn_j356' (jb : Nat → Int32) (f : Nat → Int32) (i : Nat) (x_1 : Int32) (x_2 : Int32) (x_3 : Int32) (x_4 : Int32) (x_5 : Int32) (x_6 : Int32) (z_7 : (Nat → Int32)) (x_17 : Int32) (z_18 : (Nat → Int32)) (x_19 : Int32) (z_20 : (Nat → Int32)) (x_21 : Int32) (z_22 : (Nat → Int32)) (x_23 : Int32) (x_24 : Int32) (x_25 : Int32) : (Nat → Int32) :=
  (if (sX8_isWarm (upd (upd (upd z_22 6 ((z_22 6) + x_23)) 7 ((z_22 7) + x_24)) 8 ((z_22 8) + x_25)) i) = 0 then (upd (upd (upd (upd z_22 6 ((z_22 6) + x_23)) 7 ((z_22 7) + x_24)) 8 ((z_22 8) + x_25)) 9 ((z_22 9) + 0)) else (upd (upd (upd (upd z_22 6 ((z_22 6) + x_23)) 7 ((z_22 7) + x_24)) 8 ((z_22 8) + x_25)) 9 ((z_22 9) + 1)))
def sX8_roomOn_j333' (jb : Nat → Int32) (f : Nat → Int32) (i : Nat) (x_1 : Int32) (x_2 : Int32) (x_3 : Int32) (x_4 : Int32) (x_5 : Int32) (x_6 : Int32) (z_7 : (Nat → Int32)) (x_17 : Int32) (z_18 : (Nat → Int32)) (x_19 : Int32) (z_20 : (Nat → Int32)) (x_21 : Int32) (z_22 : (Nat → Int32)) (x_23 : Int32) (x_24 : Int32) : (Nat → Int32) :=
  (sX8_roomOn_j356' jb f i x_1 x_2 x_3 x_4 x_5 x_6 z_7 x_17 z_18 x_19 z_20 x_21 z_22 x_23 x_24 (if (jb i) = 6 then 1 else 0))
def sX8_roomOn_j311' (jb : Nat → Int32) (f : Nat → Int32) (i : Nat) (x_1 : Int32) (x_2 : Int32) (x_3 : Int32) (x_4 : Int32) (x_5 : Int32) (x_6 : Int32) (z_7 : (Nat → Int32)) (x_17 : Int32) (z_18 : (Nat → Int32)) (x_19 : Int32) (z_20 : (Nat → Int32)) (x_21 : Int32) (z_22 : (Nat → Int32)) (x_23 : Int32) : (Nat → Int32) :=
  (sX8_roomOn_j333' jb f i x_1 x_2 x_3 x_4 x_5 x_6 z_7 x_17 z_18 x_19 z_20 x_21 z_22 x_23 (if (jb i) = 4 then 1 else 0))
def sX8_roomOn_z_22 (jb : Nat → Int32) (f : Nat → Int32) (i : Nat) (x_1 : Int32) (x_2 : Int32) (x_3 : Int32) (x_4 : Int32) (x_5 : Int32) (x_6 : Int32) (z_7 : (Nat → Int32)) (x_17 : Int32) (z_18 : (Nat → Int32)) (x_19 : Int32) (z_20 : (Nat → Int32)) (x_21 : Int32) (z_22 : (Nat → Int32)) : (Nat → Int32) :=
  (sX8_roomOn_j311' jb f i x_1 x_2 x_3 x_4 x_5 x_6 z_7 x_17 z_18 x_19 z_20 x_21 z_22 (if x_3 = 0 then 0 else 1))
def sX8_roomOn_j292' (jb : Nat → Int32) (f : Nat → Int32) (i : Nat) (x_1 : Int32) (x_2 : Int32) (x_3 : Int32) (x_4 : Int32) (x_5 : Int32) (x_6 : Int32) (z_7 : (Nat → Int32)) (x_17 : Int32) (z_18 : (Nat → Int32)) (x_19 : Int32) (z_20 : (Nat → Int32)) (x_21 : Int32) : (Nat → Int32) :=
  (sX8_roomOn_z_22 jb f i x_1 x_2 x_3 x_4 x_5 x_6 z_7 x_17 z_18 x_19 z_20 x_21 (sX8_lay z_20 i 7 ((sX8_of z_20 i 7) + x_21)))
def sX8_roomOn_z_20 (jb : Nat → Int32) (f : Nat → Int32) (i : Nat) (x_1 : Int32) (x_2 : Int32) (x_3 : Int32) (x_4 : Int32) (x_5 : Int32) (x_6 : Int32) (z_7 : (Nat → Int32)) (x_17 : Int32) (z_18 : (Nat → Int32)) (x_19 : Int32) (z_20 : (Nat → Int32)) : (Nat → Int32) :=
  (sX8_roomOn_j292' jb f i x_1 x_2 x_3 x_4 x_5 x_6 z_7 x_17 z_18 x_19 z_20 (if x_2 = 0 then 0 else 1))
def sX8_roomOn_j226 (jb : Nat → Int32) (f : Nat → Int32) (i : Nat) (x_1 : Int32) (x_2 : Int32) (x_3 : Int32) (x_4 : Int32) (x_5 : Int32) (x_6 : Int32) (z_7 : (Nat → Int32)) (x_17 : Int32) (z_18 : (Nat → Int32)) (x_19 : Int32) : (Nat → Int32) :=
  (sX8_roomOn_z_20 jb f i x_1 x_2 x_3 x_4 x_5 x_6 z_7 x_17 z_18 x_19 (sX8_lay z_18 i 6 x_19))
def sX8_roomOn_z_18 (jb : Nat → Int32) (f : Nat → Int32) (i : Nat) (x_1 : Int32) (x_2 : Int32) (x_3 : Int32) (x_4 : Int32) (x_5 : Int32) (x_6 : Int32) (z_7 : (Nat → Int32)) (x_17 : Int32) (z_18 : (Nat → Int32)) : (Nat → Int32) :=
  (sX8_roomOn_j226 jb f i x_1 x_2 x_3 x_4 x_5 x_6 z_7 x_17 z_18 (if (sX8_of z_18 i 5) = 0 then 0 else (x_17 - 1)))
def sX8_roomOn_j182 (jb : Nat → Int32) (f : Nat → Int32) (i : Nat) (x_1 : Int32) (x_2 : Int32) (x_3 : Int32) (x_4 : Int32) (x_5 : Int32) (x_6 : Int32) (z_7 : (Nat → Int32)) (x_17 : Int32) : (Nat → Int32) :=
  (sX8_roomOn_z_18 jb f i x_1 x_2 x_3 x_4 x_5 x_6 z_7 x_17 (sX8_lay z_7 i 5 (sX8_clamp ((sX8_of z_7 i 5) - 10) 0 100)))
def sX8_roomOn_z_7 (jb : Nat → Int32) (f : Nat → Int32) (i : Nat) (x_1 : Int32) (x_2 : Int32) (x_3 : Int32) (x_4 : Int32) (x_5 : Int32) (x_6 : Int32) (z_7 : (Nat → Int32)) : (Nat → Int32) :=
  (if x_4 = 0 then (sX8_roomOn_j251 jb f i x_1 x_2 x_3 x_4 x_5 x_6 z_7 (if x_2 = 0 then 0 else 1)) else (sX8_roomOn_j182 jb f i x_1 x_2 x_3 x_4 x_5 x_6 z_7 (if x_3 = 0 then (sX8_of z_7 i 6) else (z_7 15))))
def sX8_roomOn_j145 (jb : Nat → Int32) (f : Nat → Int32) (i : Nat) (x_1 : Int32) (x_2 : Int32) (x_3 : Int32) (x_4 : Int32) (x_5 : Int32) (x_6 : Int32) : (Nat → Int32) :=
  (sX8_roomOn_z_7 jb f i x_1 x_2 x_3 x_4 x_5 x_6 (sX8_lay f i 3 (sX8_clamp (((sX8_of f i 3) + x_5) + x_6) (-400) 400)))
def sX8_roomOn_j122 (jb : Nat → Int32) (f : Nat → Int32) (i : Nat) (x_1 : Int32) (x_2 : Int32) (x_3 : Int32) (x_4 : Int32) (x_5 : Int32) : (Nat → Int32) :=
  (sX8_roomOn_j145 jb f i x_1 x_2 x_3 x_4 x_5 (if x_1 = 0 then 0 else 4))
def sX8_roomOn_j89 (jb : Nat → Int32) (f : Nat → Int32) (i : Nat) (x_1 : Int32) (x_2 : Int32) (x_3 : Int32) (x_4 : Int32) : (Nat → Int32) :=
  (sX8_roomOn_j122 jb f i x_1 x_2 x_3 x_4 (if x_2 = 0 then (if x_4 = 0 then 1 else 6) else (((sX8_of f i 5) / 20) - 8)))
def sX8_roomOn_j68 (jb : Nat → Int32) (f : Nat → Int32) (i : Nat) (x_1 : Int32) (x_2 : Int32) (x_3 : Int32) : (Nat → Int32) :=
  (sX8_roomOn_j89 jb f i x_1 x_2 x_3 (if x_3 = 0 then (if (jb i) = 0 then 1 else 0) else 1))
def sX8_roomOn_j41 (jb : Nat → Int32) (f : Nat → Int32) (i : Nat) (x_1 : Int32) (x_2 : Int32) : (Nat → Int32) :=
  (sX8_roomOn_j68 jb f i x_1 x_2 (if (jb i) = 5 then 1 else (if (jb i) = 2 then 1 else 0)))
def sX8_roomOn_j15 (jb : Nat → Int32) (f : Nat → Int32) (i : Nat) (x_1 : Int32) : (Nat → Int32) :=
  (sX8_roomOn_j41 jb f i x_1 (if (jb i) = 3 then 1 else (if (jb i) = 1 then 1 else 0)))
def sX8_roomOn (jb : Nat → Int32) (f : Nat → Int32) (i : Nat) : (Nat → Int32) :=
  (sX8_roomOn_j15 jb f i (if (sX8_of f i 4) = 1 then 1 else 0))
set_option maxRecDepth 100000 in
set_option maxHeartbeats 4000000 in
theorem c_X8_roomOn (l : Launch) (G : va_G) (kk : Nat → ClassId) (h : Nat) (b : Nat → Nat) (q : Nat → Int32) (jb : Nat → Int32) (ra : Nat) (f : Nat → Int32) (i : Nat) (hi : i < 6) : CC l yX8_roomOn cX8_roomOn 9 none (rmO 2 43) [.ref h, .ref ra, .int (nI i)] G kk ([(h, .inr (8, moF b q)), ((b 7), .inl (kk 0, 6, .inl jb)), (ra, .inl (kk 0, 64, .inl f))]) (QV G kk ([(h, .inr (8, moF b q)), ((b 7), .inl (kk 0, 6, .inl jb)), (ra, .inl (kk 0, 64, .inl (sX8_roomOn jb f i)))])) := by
  refine cc_start (by decide +kernel) (Nat.le_of_ble_eq_true rfl) ?_
  intro p e s m below meth c A ls hx hb hr hml hown hts hlocks hA hE hK hP hD hS hl
  have hown : s.vm.findClass RX8 = some m.cls := hown
  have hl : lv_has ls 9 [(0, .ref h), (1, .ref ra), (2, .int (nI i))] := hl
  have eS : sX8_roomOn jb f i = sX8_roomOn jb f i := rfl
  refine lv_aload_n hx hb dX8_roomOn_0 rfl (lv_at hl 1 rfl) ?_
  refine lv_iload_n hx hb dX8_roomOn_1 rfl (lv_at hl 2 rfl) ?_
  refine lv_iconst (v := 4) hx hb dX8_roomOn_2 (by decide) ?_
  refine k_goI (k_runS (rest := []) (As := [.ref ra, .int (nI i), .int 4]) hx hb hml hown hts hK hP hD hS hA hE hl.1 (c_X8_of l G kk ra f i 4 (by omega)) sl_X8_44 ⟨Nat.le_of_ble_eq_true rfl, Nat.le_of_ble_eq_true rfl, rfl, rfl⟩ [2] rfl rfl ⟨Nat.zero_le _, Nat.zero_le _⟩ rfl (Nat.le_of_ble_eq_true rfl) dX8_roomOn_3) hP hD hS hA [2] rfl ads1 (fun H locs hP hD hS => ?_)
  replace hP : va_P G vwCl ([(h, .inr (8, moF b q)), ((b 7), .inl (kk 0, 6, .inl jb)), (ra, .inl (kk 0, 64, .inl f))]) H := hP
  replace hD : va_D A ([(h, .inr (8, moF b q)), ((b 7), .inl (kk 0, 6, .inl jb)), (ra, .inl (kk 0, 64, .inl f))]) := hD
  refine lv_iconst (v := 1) hx hb dX8_roomOn_6 (by decide) ?_
  have J_26 : ∀ (x_1 : Int32) (ex_1 : x_1 = (if (sX8_of f i 4) = 1 then 1 else 0)) (eS : sX8_roomOn jb f i = sX8_roomOn_j15 jb f i x_1) (H : Heap) (locs : List Loc) (ls : Array Slot) (hP : va_P G vwCl ([(h, .inr (8, moF b q)), ((b 7), .inl (kk 0, 6, .inl jb)), (ra, .inl (kk 0, 64, .inl f))]) H) (hD : va_D A ([(h, .inr (8, moF b q)), ((b 7), .inl (kk 0, 6, .inl jb)), (ra, .inl (kk 0, 64, .inl f))])) (hS : va_S A s.heap H locs) (hl : lv_has ls 9 [(0, .ref h), (1, .ref ra), (2, .int (nI i))]), GO p l e (rmO 2 43) s m ([.ref h, .ref ra, .int (nI i)] : List Value).toArray below meth c A (QV G kk ([(h, .inr (8, moF b q)), ((b 7), .inl (kk 0, 6, .inl jb)), (ra, .inl (kk 0, 64, .inl (sX8_roomOn jb f i)))])) H locs (F0 m 15 ls [.int x_1]) := by
    intro x_1 ex_1 eS H locs ls hP hD hS hl
    refine lv_istore_n (lv' := [(3, .int x_1), (0, .ref h), (1, .ref ra), (2, .int (nI i))]) hx hb dX8_roomOn_15 rfl hl (by decide) rfl (fun ls hl => ?_)
    refine lv_aload_n hx hb dX8_roomOn_16 rfl (lv_at hl 1 rfl) ?_
    refine r_get (v := .ref (b 7)) hx hb hts hown hK hP fl_X8_29 0 rfl rfl dX8_roomOn_17 ?_
    refine lv_iload_n hx hb dX8_roomOn_20 rfl (lv_at hl 3 rfl) ?_
    refine r_iald hx hb hK hP 1 rfl i rfl (by omega) (by decide) dX8_roomOn_21 ?_
    refine lv_iconst (v := 3) hx hb dX8_roomOn_22 (by decide) ?_
    have J_27 : ∀ (x_2 : Int32) (ex_2 : x_2 = (if (jb i) = 3 then 1 else (if (jb i) = 1 then 1 else 0))) (eS : sX8_roomOn jb f i = sX8_roomOn_j41 jb f i x_1 x_2) (H : Heap) (locs : List Loc) (ls : Array Slot) (hP : va_P G vwCl ([(h, .inr (8, moF b q)), ((b 7), .inl (kk 0, 6, .inl jb)), (ra, .inl (kk 0, 64, .inl f))]) H) (hD : va_D A ([(h, .inr (8, moF b q)), ((b 7), .inl (kk 0, 6, .inl jb)), (ra, .inl (kk 0, 64, .inl f))])) (hS : va_S A s.heap H locs) (hl : lv_has ls 9 [(3, .int x_1), (0, .ref h), (1, .ref ra), (2, .int (nI i))]), GO p l e (rmO 2 43) s m ([.ref h, .ref ra, .int (nI i)] : List Value).toArray below meth c A (QV G kk ([(h, .inr (8, moF b q)), ((b 7), .inl (kk 0, 6, .inl jb)), (ra, .inl (kk 0, 64, .inl (sX8_roomOn jb f i)))])) H locs (F0 m 41 ls [.int x_2]) := by
      intro x_2 ex_2 eS H locs ls hP hD hS hl
      refine lv_istore (lv' := [(4, .int x_2), (3, .int x_1), (0, .ref h), (1, .ref ra), (2, .int (nI i))]) hx hb dX8_roomOn_41 hl (by decide) rfl (fun ls hl => ?_)
      refine lv_aload_n hx hb dX8_roomOn_43 rfl (lv_at hl 2 rfl) ?_
      refine r_get (v := .ref (b 7)) hx hb hts hown hK hP fl_X8_29 0 rfl rfl dX8_roomOn_44 ?_
      refine lv_iload_n hx hb dX8_roomOn_47 rfl (lv_at hl 4 rfl) ?_
      refine r_iald hx hb hK hP 1 rfl i rfl (by omega) (by decide) dX8_roomOn_48 ?_
      refine lv_iconst (v := 5) hx hb dX8_roomOn_49 (by decide) ?_
      have J_28 : ∀ (x_3 : Int32) (ex_3 : x_3 = (if (jb i) = 5 then 1 else (if (jb i) = 2 then 1 else 0))) (eS : sX8_roomOn jb f i = sX8_roomOn_j68 jb f i x_1 x_2 x_3) (H : Heap) (locs : List Loc) (ls : Array Slot) (hP : va_P G vwCl ([(h, .inr (8, moF b q)), ((b 7), .inl (kk 0, 6, .inl jb)), (ra, .inl (kk 0, 64, .inl f))]) H) (hD : va_D A ([(h, .inr (8, moF b q)), ((b 7), .inl (kk 0, 6, .inl jb)), (ra, .inl (kk 0, 64, .inl f))])) (hS : va_S A s.heap H locs) (hl : lv_has ls 9 [(4, .int x_2), (3, .int x_1), (0, .ref h), (1, .ref ra), (2, .int (nI i))]), GO p l e (rmO 2 43) s m ([.ref h, .ref ra, .int (nI i)] : List Value).toArray below meth c A (QV G kk ([(h, .inr (8, moF b q)), ((b 7), .inl (kk 0, 6, .inl jb)), (ra, .inl (kk 0, 64, .inl (sX8_roomOn jb f i)))])) H locs (F0 m 68 ls [.int x_3]) := by
        intro x_3 ex_3 eS H locs ls hP hD hS hl
        refine lv_istore (lv' := [(5, .int x_3), (4, .int x_2), (3, .int x_1), (0, .ref h), (1, .ref ra), (2, .int (nI i))]) hx hb dX8_roomOn_68 hl (by decide) rfl (fun ls hl => ?_)
        refine lv_iload hx hb dX8_roomOn_70 (lv_at hl 0 rfl) ?_
        have J_29 : ∀ (x_4 : Int32) (ex_4 : x_4 = (if x_3 = 0 then (if (jb i) = 0 then 1 else 0) else 1)) (eS : sX8_roomOn jb f i = sX8_roomOn_j89 jb f i x_1 x_2 x_3 x_4) (H : Heap) (locs : List Loc) (ls : Array Slot) (hP : va_P G vwCl ([(h, .inr (8, moF b q)), ((b 7), .inl (kk 0, 6, .inl jb)), (ra, .inl (kk 0, 64, .inl f))]) H) (hD : va_D A ([(h, .inr (8, moF b q)), ((b 7), .inl (kk 0, 6, .inl jb)), (ra, .inl (kk 0, 64, .inl f))])) (hS : va_S A s.heap H locs) (hl : lv_has ls 9 [(5, .int x_3), (4, .int x_2), (3, .int x_1), (0, .ref h), (1, .ref ra), (2, .int (nI i))]), GO p l e (rmO 2 43) s m ([.ref h, .ref ra, .int (nI i)] : List Value).toArray below meth c A (QV G kk ([(h, .inr (8, moF b q)), ((b 7), .inl (kk 0, 6, .inl jb)), (ra, .inl (kk 0, 64, .inl (sX8_roomOn jb f i)))])) H locs (F0 m 89 ls [.int x_4]) := by
          intro x_4 ex_4 eS H locs ls hP hD hS hl
          refine lv_istore (lv' := [(6, .int x_4), (5, .int x_3), (4, .int x_2), (3, .int x_1), (0, .ref h), (1, .ref ra), (2, .int (nI i))]) hx hb dX8_roomOn_89 hl (by decide) rfl (fun ls hl => ?_)
          refine lv_iload hx hb dX8_roomOn_91 (lv_at hl 2 rfl) ?_
          have J_30 : ∀ (x_5 : Int32) (ex_5 : x_5 = (if x_2 = 0 then (if x_4 = 0 then 1 else 6) else (((sX8_of f i 5) / 20) - 8))) (eS : sX8_roomOn jb f i = sX8_roomOn_j122 jb f i x_1 x_2 x_3 x_4 x_5) (H : Heap) (locs : List Loc) (ls : Array Slot) (hP : va_P G vwCl ([(h, .inr (8, moF b q)), ((b 7), .inl (kk 0, 6, .inl jb)), (ra, .inl (kk 0, 64, .inl f))]) H) (hD : va_D A ([(h, .inr (8, moF b q)), ((b 7), .inl (kk 0, 6, .inl jb)), (ra, .inl (kk 0, 64, .inl f))])) (hS : va_S A s.heap H locs) (hl : lv_has ls 9 [(6, .int x_4), (5, .int x_3), (4, .int x_2), (3, .int x_1), (0, .ref h), (1, .ref ra), (2, .int (nI i))]), GO p l e (rmO 2 43) s m ([.ref h, .ref ra, .int (nI i)] : List Value).toArray below meth c A (QV G kk ([(h, .inr (8, moF b q)), ((b 7), .inl (kk 0, 6, .inl jb)), (ra, .inl (kk 0, 64, .inl (sX8_roomOn jb f i)))])) H locs (F0 m 122 ls [.int x_5]) := by
            intro x_5 ex_5 eS H locs ls hP hD hS hl
            refine lv_istore (lv' := [(7, .int x_5), (6, .int x_4), (5, .int x_3), (4, .int x_2), (3, .int x_1), (0, .ref h), (1, .ref ra), (2, .int (nI i))]) hx hb dX8_roomOn_122 hl (by decide) rfl (fun ls hl => ?_)
            refine lv_aload_n hx hb dX8_roomOn_124 rfl (lv_at hl 6 rfl) ?_
            refine lv_iload_n hx hb dX8_roomOn_125 rfl (lv_at hl 7 rfl) ?_
            refine lv_iconst (v := 3) hx hb dX8_roomOn_126 (by decide) ?_
            refine lv_aload_n hx hb dX8_roomOn_127 rfl (lv_at hl 6 rfl) ?_
            refine lv_iload_n hx hb dX8_roomOn_128 rfl (lv_at hl 7 rfl) ?_
            refine lv_iconst (v := 3) hx hb dX8_roomOn_129 (by decide) ?_
            refine k_goI (k_runS (rest := [.int 3, .int (nI i), .ref ra]) (As := [.ref ra, .int (nI i), .int 3]) hx hb hml hown hts hK hP hD hS hA hE hl.1 (c_X8_of l G kk ra f i 3 (by omega)) sl_X8_44 ⟨Nat.le_of_ble_eq_true rfl, Nat.le_of_ble_eq_true rfl, rfl, rfl⟩ [2] rfl rfl ⟨Nat.zero_le _, Nat.zero_le _⟩ rfl (Nat.le_of_ble_eq_true rfl) dX8_roomOn_130) hP hD hS hA [2] rfl ads1 (fun H locs hP hD hS => ?_)
            replace hP : va_P G vwCl ([(h, .inr (8, moF b q)), ((b 7), .inl (kk 0, 6, .inl jb)), (ra, .inl (kk 0, 64, .inl f))]) H := hP
            replace hD : va_D A ([(h, .inr (8, moF b q)), ((b 7), .inl (kk 0, 6, .inl jb)), (ra, .inl (kk 0, 64, .inl f))]) := hD
            refine lv_iload hx hb dX8_roomOn_133 (lv_at hl 0 rfl) ?_
            refine lv_iadd hx hb dX8_roomOn_135 ?_
            refine lv_iload_n hx hb dX8_roomOn_136 rfl (lv_at hl 4 rfl) ?_
            have J_31 : ∀ (x_6 : Int32) (ex_6 : x_6 = (if x_1 = 0 then 0 else 4)) (eS : sX8_roomOn jb f i = sX8_roomOn_j145 jb f i x_1 x_2 x_3 x_4 x_5 x_6) (H : Heap) (locs : List Loc) (ls : Array Slot) (hP : va_P G vwCl ([(h, .inr (8, moF b q)), ((b 7), .inl (kk 0, 6, .inl jb)), (ra, .inl (kk 0, 64, .inl f))]) H) (hD : va_D A ([(h, .inr (8, moF b q)), ((b 7), .inl (kk 0, 6, .inl jb)), (ra, .inl (kk 0, 64, .inl f))])) (hS : va_S A s.heap H locs) (hl : lv_has ls 9 [(7, .int x_5), (6, .int x_4), (5, .int x_3), (4, .int x_2), (3, .int x_1), (0, .ref h), (1, .ref ra), (2, .int (nI i))]), GO p l e (rmO 2 43) s m ([.ref h, .ref ra, .int (nI i)] : List Value).toArray below meth c A (QV G kk ([(h, .inr (8, moF b q)), ((b 7), .inl (kk 0, 6, .inl jb)), (ra, .inl (kk 0, 64, .inl (sX8_roomOn jb f i)))])) H locs (F0 m 145 ls [.int x_6, .int ((sX8_of f i 3) + x_5), .int 3, .int (nI i), .ref ra]) := by
              intro x_6 ex_6 eS H locs ls hP hD hS hl
              refine lv_iadd hx hb dX8_roomOn_145 ?_
              refine lv_sipush (v := (-400)) hx hb dX8_roomOn_146 (by decide) ?_
              refine lv_sipush (v := 400) hx hb dX8_roomOn_149 (by decide) ?_
              refine k_goI (k_runS (rest := [.int 3, .int (nI i), .ref ra]) (As := [.int (((sX8_of f i 3) + x_5) + x_6), .int (-400), .int 400]) hx hb hml hown hts hK hP hD hS hA hE hl.1 (c_X8_clamp l G kk (((sX8_of f i 3) + x_5) + x_6) (-400) 400 ) sl_X8_75 ⟨Nat.le_of_ble_eq_true rfl, Nat.le_of_ble_eq_true rfl, rfl, rfl⟩ [] rfl rfl ⟨Nat.zero_le _, Nat.zero_le _⟩ rfl (Nat.le_of_ble_eq_true rfl) dX8_roomOn_152) hP hD hS hA [] rfl ads0 (fun H locs hP hD hS => ?_)
              replace hP : va_P G vwCl ([(h, .inr (8, moF b q)), ((b 7), .inl (kk 0, 6, .inl jb)), (ra, .inl (kk 0, 64, .inl f))]) H := hP
              replace hD : va_D A ([(h, .inr (8, moF b q)), ((b 7), .inl (kk 0, 6, .inl jb)), (ra, .inl (kk 0, 64, .inl f))]) := hD
              refine k_goV (k_runS (rest := []) (As := [.ref ra, .int (nI i), .int 3, .int (sX8_clamp (((sX8_of f i 3) + x_5) + x_6) (-400) 400)]) hx hb hml hown hts hK hP hD hS hA hE hl.1 (c_X8_lay l G kk ra f i 3 (sX8_clamp (((sX8_of f i 3) + x_5) + x_6) (-400) 400) (by omega)) sl_X8_79 ⟨Nat.le_of_ble_eq_true rfl, Nat.le_of_ble_eq_true rfl, rfl, rfl⟩ [2] rfl rfl ⟨Nat.zero_le _, Nat.zero_le _⟩ rfl (Nat.le_of_ble_eq_true rfl) dX8_roomOn_155) hP hD hS hA [2] rfl ads1 (fun H locs hP hD hS => ?_)
              replace hP : va_P G vwCl ([(h, .inr (8, moF b q)), ((b 7), .inl (kk 0, 6, .inl jb)), (ra, .inl (kk 0, 64, .inl (sX8_lay f i 3 (sX8_clamp (((sX8_of f i 3) + x_5) + x_6) (-400) 400))))]) H := hP
              replace hD : va_D A ([(h, .inr (8, moF b q)), ((b 7), .inl (kk 0, 6, .inl jb)), (ra, .inl (kk 0, 64, .inl (sX8_lay f i 3 (sX8_clamp (((sX8_of f i 3) + x_5) + x_6) (-400) 400))))]) := hD
              have eS : sX8_roomOn jb f i = sX8_roomOn_z_7 jb f i x_1 x_2 x_3 x_4 x_5 x_6 (sX8_lay f i 3 (sX8_clamp (((sX8_of f i 3) + x_5) + x_6) (-400) 400)) := eS
              generalize sX8_lay f i 3 (sX8_clamp (((sX8_of f i 3) + x_5) + x_6) (-400) 400) = z_7 at hP hD eS ⊢
              refine lv_iload hx hb dX8_roomOn_158 (lv_at hl 1 rfl) ?_
              refine lv_if_eq (tgt := 232) hx hb dX8_roomOn_160 (by decide) (fun c_160 => ?_) (fun c_160 => ?_)
              · have eS := eS.trans (if_pos c_160)
                refine lv_aload_n hx hb dX8_roomOn_232 rfl (lv_at hl 6 rfl) ?_
                refine lv_iload_n hx hb dX8_roomOn_233 rfl (lv_at hl 7 rfl) ?_
                refine lv_iconst (v := 5) hx hb dX8_roomOn_234 (by decide) ?_
                refine lv_aload_n hx hb dX8_roomOn_235 rfl (lv_at hl 6 rfl) ?_
                refine lv_iload_n hx hb dX8_roomOn_236 rfl (lv_at hl 7 rfl) ?_
                refine lv_iconst (v := 5) hx hb dX8_roomOn_237 (by decide) ?_
                refine k_goI (k_runS (rest := [.int 5, .int (nI i), .ref ra]) (As := [.ref ra, .int (nI i), .int 5]) hx hb hml hown hts hK hP hD hS hA hE hl.1 (c_X8_of l G kk ra z_7 i 5 (by omega)) sl_X8_44 ⟨Nat.le_of_ble_eq_true rfl, Nat.le_of_ble_eq_true rfl, rfl, rfl⟩ [2] rfl rfl ⟨Nat.zero_le _, Nat.zero_le _⟩ rfl (Nat.le_of_ble_eq_true rfl) dX8_roomOn_238) hP hD hS hA [2] rfl ads1 (fun H locs hP hD hS => ?_)
                replace hP : va_P G vwCl ([(h, .inr (8, moF b q)), ((b 7), .inl (kk 0, 6, .inl jb)), (ra, .inl (kk 0, 64, .inl z_7))]) H := hP
                replace hD : va_D A ([(h, .inr (8, moF b q)), ((b 7), .inl (kk 0, 6, .inl jb)), (ra, .inl (kk 0, 64, .inl z_7))]) := hD
                refine lv_iload hx hb dX8_roomOn_241 (lv_at hl 3 rfl) ?_
                have J_32 : ∀ (x_9 : Int32) (ex_9 : x_9 = (if x_2 = 0 then 0 else 1)) (eS : sX8_roomOn jb f i = sX8_roomOn_j251 jb f i x_1 x_2 x_3 x_4 x_5 x_6 z_7 x_9) (H : Heap) (locs : List Loc) (ls : Array Slot) (hP : va_P G vwCl ([(h, .inr (8, moF b q)), ((b 7), .inl (kk 0, 6, .inl jb)), (ra, .inl (kk 0, 64, .inl z_7))]) H) (hD : va_D A ([(h, .inr (8, moF b q)), ((b 7), .inl (kk 0, 6, .inl jb)), (ra, .inl (kk 0, 64, .inl z_7))])) (hS : va_S A s.heap H locs) (hl : lv_has ls 9 [(7, .int x_5), (6, .int x_4), (5, .int x_3), (4, .int x_2), (3, .int x_1), (0, .ref h), (1, .ref ra), (2, .int (nI i))]), GO p l e (rmO 2 43) s m ([.ref h, .ref ra, .int (nI i)] : List Value).toArray below meth c A (QV G kk ([(h, .inr (8, moF b q)), ((b 7), .inl (kk 0, 6, .inl jb)), (ra, .inl (kk 0, 64, .inl (sX8_roomOn jb f i)))])) H locs (F0 m 251 ls [.int x_9, .int (sX8_of z_7 i 5), .int 5, .int (nI i), .ref ra]) := by
                  intro x_9 ex_9 eS H locs ls hP hD hS hl
                  refine lv_iadd hx hb dX8_roomOn_251 ?_
                  refine lv_iload_n hx hb dX8_roomOn_252 rfl (lv_at hl 4 rfl) ?_
                  have J_33 : ∀ (x_10 : Int32) (ex_10 : x_10 = (if x_1 = 0 then 0 else 2)) (eS : sX8_roomOn jb f i = sX8_roomOn_j261 jb f i x_1 x_2 x_3 x_4 x_5 x_6 z_7 x_9 x_10) (H : Heap) (locs : List Loc) (ls : Array Slot) (hP : va_P G vwCl ([(h, .inr (8, moF b q)), ((b 7), .inl (kk 0, 6, .inl jb)), (ra, .inl (kk 0, 64, .inl z_7))]) H) (hD : va_D A ([(h, .inr (8, moF b q)), ((b 7), .inl (kk 0, 6, .inl jb)), (ra, .inl (kk 0, 64, .inl z_7))])) (hS : va_S A s.heap H locs) (hl : lv_has ls 9 [(7, .int x_5), (6, .int x_4), (5, .int x_3), (4, .int x_2), (3, .int x_1), (0, .ref h), (1, .ref ra), (2, .int (nI i))]), GO p l e (rmO 2 43) s m ([.ref h, .ref ra, .int (nI i)] : List Value).toArray below meth c A (QV G kk ([(h, .inr (8, moF b q)), ((b 7), .inl (kk 0, 6, .inl jb)), (ra, .inl (kk 0, 64, .inl (sX8_roomOn jb f i)))])) H locs (F0 m 261 ls [.int x_10, .int ((sX8_of z_7 i 5) + x_9), .int 5, .int (nI i), .ref ra]) := by
                    intro x_10 ex_10 eS H locs ls hP hD hS hl
                    refine lv_iadd hx hb dX8_roomOn_261 ?_
                    refine lv_iconst (v := 0) hx hb dX8_roomOn_262 (by decide) ?_
                    refine lv_bipush (v := 100) hx hb dX8_roomOn_263 (by decide) ?_
                    refine k_goI (k_runS (rest := [.int 5, .int (nI i), .ref ra]) (As := [.int (((sX8_of z_7 i 5) + x_9) + x_10), .int 0, .int 100]) hx hb hml hown hts hK hP hD hS hA hE hl.1 (c_X8_clamp l G kk (((sX8_of z_7 i 5) + x_9) + x_10) 0 100 ) sl_X8_75 ⟨Nat.le_of_ble_eq_true rfl, Nat.le_of_ble_eq_true rfl, rfl, rfl⟩ [] rfl rfl ⟨Nat.zero_le _, Nat.zero_le _⟩ rfl (Nat.le_of_ble_eq_true rfl) dX8_roomOn_265) hP hD hS hA [] rfl ads0 (fun H locs hP hD hS => ?_)
                    replace hP : va_P G vwCl ([(h, .inr (8, moF b q)), ((b 7), .inl (kk 0, 6, .inl jb)), (ra, .inl (kk 0, 64, .inl z_7))]) H := hP
                    replace hD : va_D A ([(h, .inr (8, moF b q)), ((b 7), .inl (kk 0, 6, .inl jb)), (ra, .inl (kk 0, 64, .inl z_7))]) := hD
                    refine k_goV (k_runS (rest := []) (As := [.ref ra, .int (nI i), .int 5, .int (sX8_clamp (((sX8_of z_7 i 5) + x_9) + x_10) 0 100)]) hx hb hml hown hts hK hP hD hS hA hE hl.1 (c_X8_lay l G kk ra z_7 i 5 (sX8_clamp (((sX8_of z_7 i 5) + x_9) + x_10) 0 100) (by omega)) sl_X8_79 ⟨Nat.le_of_ble_eq_true rfl, Nat.le_of_ble_eq_true rfl, rfl, rfl⟩ [2] rfl rfl ⟨Nat.zero_le _, Nat.zero_le _⟩ rfl (Nat.le_of_ble_eq_true rfl) dX8_roomOn_268) hP hD hS hA [2] rfl ads1 (fun H locs hP hD hS => ?_)
                    replace hP : va_P G vwCl ([(h, .inr (8, moF b q)), ((b 7), .inl (kk 0, 6, .inl jb)), (ra, .inl (kk 0, 64, .inl (sX8_lay z_7 i 5 (sX8_clamp (((sX8_of z_7 i 5) + x_9) + x_10) 0 100))))]) H := hP
                    replace hD : va_D A ([(h, .inr (8, moF b q)), ((b 7), .inl (kk 0, 6, .inl jb)), (ra, .inl (kk 0, 64, .inl (sX8_lay z_7 i 5 (sX8_clamp (((sX8_of z_7 i 5) + x_9) + x_10) 0 100))))]) := hD
                    have eS : sX8_roomOn jb f i = sX8_roomOn_z_11 jb f i x_1 x_2 x_3 x_4 x_5 x_6 z_7 x_9 x_10 (sX8_lay z_7 i 5 (sX8_clamp (((sX8_of z_7 i 5) + x_9) + x_10) 0 100)) := eS
                    generalize sX8_lay z_7 i 5 (sX8_clamp (((sX8_of z_7 i 5) + x_9) + x_10) 0 100) = z_11 at hP hD eS ⊢
                    refine lv_aload_n hx hb dX8_roomOn_271 rfl (lv_at hl 6 rfl) ?_
                    refine lv_iload_n hx hb dX8_roomOn_272 rfl (lv_at hl 7 rfl) ?_
                    refine lv_bipush (v := 7) hx hb dX8_roomOn_273 (by decide) ?_
                    refine lv_aload_n hx hb dX8_roomOn_275 rfl (lv_at hl 6 rfl) ?_
                    refine lv_iload_n hx hb dX8_roomOn_276 rfl (lv_at hl 7 rfl) ?_
                    refine lv_bipush (v := 7) hx hb dX8_roomOn_277 (by decide) ?_
                    refine k_goI (k_runS (rest := [.int 7, .int (nI i), .ref ra]) (As := [.ref ra, .int (nI i), .int 7]) hx hb hml hown hts hK hP hD hS hA hE hl.1 (c_X8_of l G kk ra z_11 i 7 (by omega)) sl_X8_44 ⟨Nat.le_of_ble_eq_true rfl, Nat.le_of_ble_eq_true rfl, rfl, rfl⟩ [2] rfl rfl ⟨Nat.zero_le _, Nat.zero_le _⟩ rfl (Nat.le_of_ble_eq_true rfl) dX8_roomOn_279) hP hD hS hA [2] rfl ads1 (fun H locs hP hD hS => ?_)
                    replace hP : va_P G vwCl ([(h, .inr (8, moF b q)), ((b 7), .inl (kk 0, 6, .inl jb)), (ra, .inl (kk 0, 64, .inl z_11))]) H := hP
                    replace hD : va_D A ([(h, .inr (8, moF b q)), ((b 7), .inl (kk 0, 6, .inl jb)), (ra, .inl (kk 0, 64, .inl z_11))]) := hD
                    refine lv_iload hx hb dX8_roomOn_282 (lv_at hl 3 rfl) ?_
                    have J_34 : ∀ (x_12 : Int32) (ex_12 : x_12 = (if x_2 = 0 then 0 else 1)) (eS : sX8_roomOn jb f i = sX8_roomOn_j292 jb f i x_1 x_2 x_3 x_4 x_5 x_6 z_7 x_9 x_10 z_11 x_12) (H : Heap) (locs : List Loc) (ls : Array Slot) (hP : va_P G vwCl ([(h, .inr (8, moF b q)), ((b 7), .inl (kk 0, 6, .inl jb)), (ra, .inl (kk 0, 64, .inl z_11))]) H) (hD : va_D A ([(h, .inr (8, moF b q)), ((b 7), .inl (kk 0, 6, .inl jb)), (ra, .inl (kk 0, 64, .inl z_11))])) (hS : va_S A s.heap H locs) (hl : lv_has ls 9 [(7, .int x_5), (6, .int x_4), (5, .int x_3), (4, .int x_2), (3, .int x_1), (0, .ref h), (1, .ref ra), (2, .int (nI i))]), GO p l e (rmO 2 43) s m ([.ref h, .ref ra, .int (nI i)] : List Value).toArray below meth c A (QV G kk ([(h, .inr (8, moF b q)), ((b 7), .inl (kk 0, 6, .inl jb)), (ra, .inl (kk 0, 64, .inl (sX8_roomOn jb f i)))])) H locs (F0 m 292 ls [.int x_12, .int (sX8_of z_11 i 7), .int 7, .int (nI i), .ref ra]) := by
                      intro x_12 ex_12 eS H locs ls hP hD hS hl
                      refine lv_iadd hx hb dX8_roomOn_292 ?_
                      refine k_goV (k_runS (rest := []) (As := [.ref ra, .int (nI i), .int 7, .int ((sX8_of z_11 i 7) + x_12)]) hx hb hml hown hts hK hP hD hS hA hE hl.1 (c_X8_lay l G kk ra z_11 i 7 ((sX8_of z_11 i 7) + x_12) (by omega)) sl_X8_79 ⟨Nat.le_of_ble_eq_true rfl, Nat.le_of_ble_eq_true rfl, rfl, rfl⟩ [2] rfl rfl ⟨Nat.zero_le _, Nat.zero_le _⟩ rfl (Nat.le_of_ble_eq_true rfl) dX8_roomOn_293) hP hD hS hA [2] rfl ads1 (fun H locs hP hD hS => ?_)
                      replace hP : va_P G vwCl ([(h, .inr (8, moF b q)), ((b 7), .inl (kk 0, 6, .inl jb)), (ra, .inl (kk 0, 64, .inl (sX8_lay z_11 i 7 ((sX8_of z_11 i 7) + x_12))))]) H := hP
                      replace hD : va_D A ([(h, .inr (8, moF b q)), ((b 7), .inl (kk 0, 6, .inl jb)), (ra, .inl (kk 0, 64, .inl (sX8_lay z_11 i 7 ((sX8_of z_11 i 7) + x_12))))]) := hD
                      have eS : sX8_roomOn jb f i = sX8_roomOn_z_13 jb f i x_1 x_2 x_3 x_4 x_5 x_6 z_7 x_9 x_10 z_11 x_12 (sX8_lay z_11 i 7 ((sX8_of z_11 i 7) + x_12)) := eS
                      generalize sX8_lay z_11 i 7 ((sX8_of z_11 i 7) + x_12) = z_13 at hP hD eS ⊢
                      refine lv_aload_n hx hb dX8_roomOn_296 rfl (lv_at hl 6 rfl) ?_
                      refine lv_bipush (v := 6) hx hb dX8_roomOn_297 (by decide) ?_
                      refine lv_dup2_11 hx hb dX8_roomOn_299 rfl rfl ?_
                      refine r_iald hx hb hK hP 2 rfl 6 rfl (by decide) (by decide) dX8_roomOn_300 ?_
                      refine lv_iload hx hb dX8_roomOn_301 (lv_at hl 2 rfl) ?_
                      have J_35 : ∀ (x_14 : Int32) (ex_14 : x_14 = (if x_3 = 0 then 0 else 1)) (eS : sX8_roomOn jb f i = sX8_roomOn_j311 jb f i x_1 x_2 x_3 x_4 x_5 x_6 z_7 x_9 x_10 z_11 x_12 z_13 x_14) (H : Heap) (locs : List Loc) (ls : Array Slot) (hP : va_P G vwCl ([(h, .inr (8, moF b q)), ((b 7), .inl (kk 0, 6, .inl jb)), (ra, .inl (kk 0, 64, .inl z_13))]) H) (hD : va_D A ([(h, .inr (8, moF b q)), ((b 7), .inl (kk 0, 6, .inl jb)), (ra, .inl (kk 0, 64, .inl z_13))])) (hS : va_S A s.heap H locs) (hl : lv_has ls 9 [(7, .int x_5), (6, .int x_4), (5, .int x_3), (4, .int x_2), (3, .int x_1), (0, .ref h), (1, .ref ra), (2, .int (nI i))]), GO p l e (rmO 2 43) s m ([.ref h, .ref ra, .int (nI i)] : List Value).toArray below meth c A (QV G kk ([(h, .inr (8, moF b q)), ((b 7), .inl (kk 0, 6, .inl jb)), (ra, .inl (kk 0, 64, .inl (sX8_roomOn jb f i)))])) H locs (F0 m 311 ls [.int x_14, .int (z_13 6), .int 6, .ref ra]) := by
                        intro x_14 ex_14 eS H locs ls hP hD hS hl
                        refine lv_iadd hx hb dX8_roomOn_311 ?_
                        refine r_iast hx hb hK hP hD hS 2 rfl 6 rfl (by decide) (by decide) dX8_roomOn_312 (fun H locs hP hD hS => ?_)
                        replace hP : va_P G vwCl ([(h, .inr (8, moF b q)), ((b 7), .inl (kk 0, 6, .inl jb)), (ra, .inl (kk 0, 64, .inl (upd z_13 6 ((z_13 6) + x_14))))]) H := hP
                        replace hD : va_D A ([(h, .inr (8, moF b q)), ((b 7), .inl (kk 0, 6, .inl jb)), (ra, .inl (kk 0, 64, .inl (upd z_13 6 ((z_13 6) + x_14))))]) := hD
                        refine lv_aload_n hx hb dX8_roomOn_313 rfl (lv_at hl 6 rfl) ?_
                        refine lv_bipush (v := 7) hx hb dX8_roomOn_314 (by decide) ?_
                        refine lv_dup2_11 hx hb dX8_roomOn_316 rfl rfl ?_
                        refine r_iald hx hb hK hP 2 rfl 7 rfl (by decide) (by decide) dX8_roomOn_317 ?_
                        refine top_eq (y := (z_13 7)) (pk_un (by decide)) ?_
                        refine lv_aload_n hx hb dX8_roomOn_318 rfl (lv_at hl 5 rfl) ?_
                        refine r_get (v := .ref (b 7)) hx hb hts hown hK hP fl_X8_29 0 rfl rfl dX8_roomOn_319 ?_
                        refine lv_iload_n hx hb dX8_roomOn_322 rfl (lv_at hl 7 rfl) ?_
                        refine r_iald hx hb hK hP 1 rfl i rfl (by omega) (by decide) dX8_roomOn_323 ?_
                        refine lv_iconst (v := 4) hx hb dX8_roomOn_324 (by decide) ?_
                        have J_36 : ∀ (x_15 : Int32) (ex_15 : x_15 = (if (jb i) = 4 then 1 else 0)) (eS : sX8_roomOn jb f i = sX8_roomOn_j333 jb f i x_1 x_2 x_3 x_4 x_5 x_6 z_7 x_9 x_10 z_11 x_12 z_13 x_14 x_15) (H : Heap) (locs : List Loc) (ls : Array Slot) (hP : va_P G vwCl ([(h, .inr (8, moF b q)), ((b 7), .inl (kk 0, 6, .inl jb)), (ra, .inl (kk 0, 64, .inl (upd z_13 6 ((z_13 6) + x_14))))]) H) (hD : va_D A ([(h, .inr (8, moF b q)), ((b 7), .inl (kk 0, 6, .inl jb)), (ra, .inl (kk 0, 64, .inl (upd z_13 6 ((z_13 6) + x_14))))])) (hS : va_S A s.heap H locs) (hl : lv_has ls 9 [(7, .int x_5), (6, .int x_4), (5, .int x_3), (4, .int x_2), (3, .int x_1), (0, .ref h), (1, .ref ra), (2, .int (nI i))]), GO p l e (rmO 2 43) s m ([.ref h, .ref ra, .int (nI i)] : List Value).toArray below meth c A (QV G kk ([(h, .inr (8, moF b q)), ((b 7), .inl (kk 0, 6, .inl jb)), (ra, .inl (kk 0, 64, .inl (sX8_roomOn jb f i)))])) H locs (F0 m 333 ls [.int x_15, .int (z_13 7), .int 7, .ref ra]) := by
                          intro x_15 ex_15 eS H locs ls hP hD hS hl
                          refine lv_iadd hx hb dX8_roomOn_333 ?_
                          refine r_iast hx hb hK hP hD hS 2 rfl 7 rfl (by decide) (by decide) dX8_roomOn_334 (fun H locs hP hD hS => ?_)
                          replace hP : va_P G vwCl ([(h, .inr (8, moF b q)), ((b 7), .inl (kk 0, 6, .inl jb)), (ra, .inl (kk 0, 64, .inl (upd (upd z_13 6 ((z_13 6) + x_14)) 7 ((z_13 7) + x_15))))]) H := hP
                          replace hD : va_D A ([(h, .inr (8, moF b q)), ((b 7), .inl (kk 0, 6, .inl jb)), (ra, .inl (kk 0, 64, .inl (upd (upd z_13 6 ((z_13 6) + x_14)) 7 ((z_13 7) + x_15))))]) := hD
                          refine lv_aload_n hx hb dX8_roomOn_335 rfl (lv_at hl 6 rfl) ?_
                          refine lv_bipush (v := 8) hx hb dX8_roomOn_336 (by decide) ?_
                          refine lv_dup2_11 hx hb dX8_roomOn_338 rfl rfl ?_
                          refine r_iald hx hb hK hP 2 rfl 8 rfl (by decide) (by decide) dX8_roomOn_339 ?_
                          refine top_eq (y := (z_13 8)) ((pk_un (by decide)).trans (pk_un (by decide))) ?_
                          refine lv_aload_n hx hb dX8_roomOn_340 rfl (lv_at hl 5 rfl) ?_
                          refine r_get (v := .ref (b 7)) hx hb hts hown hK hP fl_X8_29 0 rfl rfl dX8_roomOn_341 ?_
                          refine lv_iload_n hx hb dX8_roomOn_344 rfl (lv_at hl 7 rfl) ?_
                          refine r_iald hx hb hK hP 1 rfl i rfl (by omega) (by decide) dX8_roomOn_345 ?_
                          refine lv_bipush (v := 6) hx hb dX8_roomOn_346 (by decide) ?_
                          have J_37 : ∀ (x_16 : Int32) (ex_16 : x_16 = (if (jb i) = 6 then 1 else 0)) (eS : sX8_roomOn jb f i = sX8_roomOn_j356 jb f i x_1 x_2 x_3 x_4 x_5 x_6 z_7 x_9 x_10 z_11 x_12 z_13 x_14 x_15 x_16) (H : Heap) (locs : List Loc) (ls : Array Slot) (hP : va_P G vwCl ([(h, .inr (8, moF b q)), ((b 7), .inl (kk 0, 6, .inl jb)), (ra, .inl (kk 0, 64, .inl (upd (upd z_13 6 ((z_13 6) + x_14)) 7 ((z_13 7) + x_15))))]) H) (hD : va_D A ([(h, .inr (8, moF b q)), ((b 7), .inl (kk 0, 6, .inl jb)), (ra, .inl (kk 0, 64, .inl (upd (upd z_13 6 ((z_13 6) + x_14)) 7 ((z_13 7) + x_15))))])) (hS : va_S A s.heap H locs) (hl : lv_has ls 9 [(7, .int x_5), (6, .int x_4), (5, .int x_3), (4, .int x_2), (3, .int x_1), (0, .ref h), (1, .ref ra), (2, .int (nI i))]), GO p l e (rmO 2 43) s m ([.ref h, .ref ra, .int (nI i)] : List Value).toArray below meth c A (QV G kk ([(h, .inr (8, moF b q)), ((b 7), .inl (kk 0, 6, .inl jb)), (ra, .inl (kk 0, 64, .inl (sX8_roomOn jb f i)))])) H locs (F0 m 356 ls [.int x_16, .int (z_13 8), .int 8, .ref ra]) := by
                            intro x_16 ex_16 eS H locs ls hP hD hS hl
                            refine lv_iadd hx hb dX8_roomOn_356 ?_
                            refine r_iast hx hb hK hP hD hS 2 rfl 8 rfl (by decide) (by decide) dX8_roomOn_357 (fun H locs hP hD hS => ?_)
                            replace hP : va_P G vwCl ([(h, .inr (8, moF b q)), ((b 7), .inl (kk 0, 6, .inl jb)), (ra, .inl (kk 0, 64, .inl (upd (upd (upd z_13 6 ((z_13 6) + x_14)) 7 ((z_13 7) + x_15)) 8 ((z_13 8) + x_16))))]) H := hP
                            replace hD : va_D A ([(h, .inr (8, moF b q)), ((b 7), .inl (kk 0, 6, .inl jb)), (ra, .inl (kk 0, 64, .inl (upd (upd (upd z_13 6 ((z_13 6) + x_14)) 7 ((z_13 7) + x_15)) 8 ((z_13 8) + x_16))))]) := hD
                            refine lv_aload_n hx hb dX8_roomOn_358 rfl (lv_at hl 6 rfl) ?_
                            refine lv_bipush (v := 9) hx hb dX8_roomOn_359 (by decide) ?_
                            refine lv_dup2_11 hx hb dX8_roomOn_361 rfl rfl ?_
                            refine r_iald hx hb hK hP 2 rfl 9 rfl (by decide) (by decide) dX8_roomOn_362 ?_
                            refine top_eq (y := (z_13 9)) ((pk_un (by decide)).trans ((pk_un (by decide)).trans (pk_un (by decide)))) ?_
                            refine lv_aload_n hx hb dX8_roomOn_363 rfl (lv_at hl 6 rfl) ?_
                            refine lv_iload_n hx hb dX8_roomOn_364 rfl (lv_at hl 7 rfl) ?_
                            refine k_goI (k_runS (rest := [.int (z_13 9), .int 9, .ref ra]) (As := [.ref ra, .int (nI i)]) hx hb hml hown hts hK hP hD hS hA hE hl.1 (c_X8_isWarm l G kk ra (upd (upd (upd z_13 6 ((z_13 6) + x_14)) 7 ((z_13 7) + x_15)) 8 ((z_13 8) + x_16)) i (by omega)) sl_X8_55 ⟨Nat.le_of_ble_eq_true rfl, Nat.le_of_ble_eq_true rfl, rfl, rfl⟩ [2] rfl rfl ⟨Nat.zero_le _, Nat.zero_le _⟩ rfl (Nat.le_of_ble_eq_true rfl) dX8_roomOn_365) hP hD hS hA [2] rfl ads1 (fun H locs hP hD hS => ?_)
                            replace hP : va_P G vwCl ([(h, .inr (8, moF b q)), ((b 7), .inl (kk 0, 6, .inl jb)), (ra, .inl (kk 0, 64, .inl (upd (upd (upd z_13 6 ((z_13 6) + x_14)) 7 ((z_13 7) + x_15)) 8 ((z_13 8) + x_16))))]) H := hP
                            replace hD : va_D A ([(h, .inr (8, moF b q)), ((b 7), .inl (kk 0, 6, .inl jb)), (ra, .inl (kk 0, 64, .inl (upd (upd (upd z_13 6 ((z_13 6) + x_14)) 7 ((z_13 7) + x_15)) 8 ((z_13 8) + x_16))))]) := hD
                            refine lv_if_eq (tgt := 375) hx hb dX8_roomOn_368 (by decide) (fun c_368 => ?_) (fun c_368 => ?_)
                            · have eS := eS.trans (if_pos c_368)
                              refine lv_iconst (v := 0) hx hb dX8_roomOn_375 (by decide) ?_
                              refine lv_iadd hx hb dX8_roomOn_376 ?_
                              refine r_iast hx hb hK hP hD hS 2 rfl 9 rfl (by decide) (by decide) dX8_roomOn_377 (fun H locs hP hD hS => ?_)
                              replace hP : va_P G vwCl ([(h, .inr (8, moF b q)), ((b 7), .inl (kk 0, 6, .inl jb)), (ra, .inl (kk 0, 64, .inl (upd (upd (upd (upd z_13 6 ((z_13 6) + x_14)) 7 ((z_13 7) + x_15)) 8 ((z_13 8) + x_16)) 9 ((z_13 9) + 0))))]) H := hP
                              replace hD : va_D A ([(h, .inr (8, moF b q)), ((b 7), .inl (kk 0, 6, .inl jb)), (ra, .inl (kk 0, 64, .inl (upd (upd (upd (upd z_13 6 ((z_13 6) + x_14)) 7 ((z_13 7) + x_15)) 8 ((z_13 8) + x_16)) 9 ((z_13 9) + 0))))]) := hD
                              exact fin_v hx hb hr hlocks hK (vP_eq (congrArg (fun z : (Nat → Int32) => ([(h, .inr (8, moF b q)), ((b 7), .inl (kk 0, 6, .inl jb)), (ra, .inl (kk 0, 64, .inl z))] : va_W)) eS.symm) hP) (vD_eq (congrArg (fun z : (Nat → Int32) => ([(h, .inr (8, moF b q)), ((b 7), .inl (kk 0, 6, .inl jb)), (ra, .inl (kk 0, 64, .inl z))] : va_W)) eS.symm) hD) hS dX8_roomOn_378
                            · have eS := eS.trans (if_neg c_368)
                              refine lv_iconst (v := 1) hx hb dX8_roomOn_371 (by decide) ?_
                              refine lv_goto (tgt := 376) hx hb dX8_roomOn_372 (by decide) ?_
                              refine lv_iadd hx hb dX8_roomOn_376 ?_
                              refine r_iast hx hb hK hP hD hS 2 rfl 9 rfl (by decide) (by decide) dX8_roomOn_377 (fun H locs hP hD hS => ?_)
                              replace hP : va_P G vwCl ([(h, .inr (8, moF b q)), ((b 7), .inl (kk 0, 6, .inl jb)), (ra, .inl (kk 0, 64, .inl (upd (upd (upd (upd z_13 6 ((z_13 6) + x_14)) 7 ((z_13 7) + x_15)) 8 ((z_13 8) + x_16)) 9 ((z_13 9) + 1))))]) H := hP
                              replace hD : va_D A ([(h, .inr (8, moF b q)), ((b 7), .inl (kk 0, 6, .inl jb)), (ra, .inl (kk 0, 64, .inl (upd (upd (upd (upd z_13 6 ((z_13 6) + x_14)) 7 ((z_13 7) + x_15)) 8 ((z_13 8) + x_16)) 9 ((z_13 9) + 1))))]) := hD
                              exact fin_v hx hb hr hlocks hK (vP_eq (congrArg (fun z : (Nat → Int32) => ([(h, .inr (8, moF b q)), ((b 7), .inl (kk 0, 6, .inl jb)), (ra, .inl (kk 0, 64, .inl z))] : va_W)) eS.symm) hP) (vD_eq (congrArg (fun z : (Nat → Int32) => ([(h, .inr (8, moF b q)), ((b 7), .inl (kk 0, 6, .inl jb)), (ra, .inl (kk 0, 64, .inl z))] : va_W)) eS.symm) hD) hS dX8_roomOn_378
                          refine lv_icmp_ne (tgt := 355) hx hb dX8_roomOn_348 (by decide) (fun c_348 => ?_) (fun c_348 => ?_)
                          · refine lv_iconst (v := 0) hx hb dX8_roomOn_355 (by decide) ?_
                            exact J_37 0 (if_neg c_348).symm (eS.trans (cg1 (sX8_roomOn_j356 jb f i x_1 x_2 x_3 x_4 x_5 x_6 z_7 x_9 x_10 z_11 x_12 z_13 x_14 x_15) (if_neg c_348))) _ _ ls hP hD hS (lv_sub hl [0, 1, 2, 3, 4, 5, 6, 7] rfl)
                          · refine lv_iconst (v := 1) hx hb dX8_roomOn_351 (by decide) ?_
                            refine lv_goto (tgt := 356) hx hb dX8_roomOn_352 (by decide) ?_
                            exact J_37 1 (if_pos c_348).symm (eS.trans (cg1 (sX8_roomOn_j356 jb f i x_1 x_2 x_3 x_4 x_5 x_6 z_7 x_9 x_10 z_11 x_12 z_13 x_14 x_15) (if_pos c_348))) _ _ ls hP hD hS (lv_sub hl [0, 1, 2, 3, 4, 5, 6, 7] rfl)
                        refine lv_icmp_ne (tgt := 332) hx hb dX8_roomOn_325 (by decide) (fun c_325 => ?_) (fun c_325 => ?_)
                        · refine lv_iconst (v := 0) hx hb dX8_roomOn_332 (by decide) ?_
                          exact J_36 0 (if_neg c_325).symm (eS.trans (cg1 (sX8_roomOn_j333 jb f i x_1 x_2 x_3 x_4 x_5 x_6 z_7 x_9 x_10 z_11 x_12 z_13 x_14) (if_neg c_325))) _ _ ls hP hD hS (lv_sub hl [0, 1, 2, 3, 4, 5, 6, 7] rfl)
                        · refine lv_iconst (v := 1) hx hb dX8_roomOn_328 (by decide) ?_
                          refine lv_goto (tgt := 333) hx hb dX8_roomOn_329 (by decide) ?_
                          exact J_36 1 (if_pos c_325).symm (eS.trans (cg1 (sX8_roomOn_j333 jb f i x_1 x_2 x_3 x_4 x_5 x_6 z_7 x_9 x_10 z_11 x_12 z_13 x_14) (if_pos c_325))) _ _ ls hP hD hS (lv_sub hl [0, 1, 2, 3, 4, 5, 6, 7] rfl)
                      refine lv_if_eq (tgt := 310) hx hb dX8_roomOn_303 (by decide) (fun c_303 => ?_) (fun c_303 => ?_)
                      · refine lv_iconst (v := 0) hx hb dX8_roomOn_310 (by decide) ?_
                        exact J_35 0 (if_pos c_303).symm (eS.trans (cg1 (sX8_roomOn_j311 jb f i x_1 x_2 x_3 x_4 x_5 x_6 z_7 x_9 x_10 z_11 x_12 z_13) (if_pos c_303))) _ _ ls hP hD hS (lv_sub hl [0, 1, 2, 3, 4, 5, 6, 7] rfl)
                      · refine lv_iconst (v := 1) hx hb dX8_roomOn_306 (by decide) ?_
                        refine lv_goto (tgt := 311) hx hb dX8_roomOn_307 (by decide) ?_
                        exact J_35 1 (if_neg c_303).symm (eS.trans (cg1 (sX8_roomOn_j311 jb f i x_1 x_2 x_3 x_4 x_5 x_6 z_7 x_9 x_10 z_11 x_12 z_13) (if_neg c_303))) _ _ ls hP hD hS (lv_sub hl [0, 1, 2, 3, 4, 5, 6, 7] rfl)
                    refine lv_if_eq (tgt := 291) hx hb dX8_roomOn_284 (by decide) (fun c_284 => ?_) (fun c_284 => ?_)
                    · refine lv_iconst (v := 0) hx hb dX8_roomOn_291 (by decide) ?_
                      exact J_34 0 (if_pos c_284).symm (eS.trans (cg1 (sX8_roomOn_j292 jb f i x_1 x_2 x_3 x_4 x_5 x_6 z_7 x_9 x_10 z_11) (if_pos c_284))) _ _ ls hP hD hS (lv_sub hl [0, 1, 2, 3, 4, 5, 6, 7] rfl)
                    · refine lv_iconst (v := 1) hx hb dX8_roomOn_287 (by decide) ?_
                      refine lv_goto (tgt := 292) hx hb dX8_roomOn_288 (by decide) ?_
                      exact J_34 1 (if_neg c_284).symm (eS.trans (cg1 (sX8_roomOn_j292 jb f i x_1 x_2 x_3 x_4 x_5 x_6 z_7 x_9 x_10 z_11) (if_neg c_284))) _ _ ls hP hD hS (lv_sub hl [0, 1, 2, 3, 4, 5, 6, 7] rfl)
                  refine lv_if_eq (tgt := 260) hx hb dX8_roomOn_253 (by decide) (fun c_253 => ?_) (fun c_253 => ?_)
                  · refine lv_iconst (v := 0) hx hb dX8_roomOn_260 (by decide) ?_
                    exact J_33 0 (if_pos c_253).symm (eS.trans (cg1 (sX8_roomOn_j261 jb f i x_1 x_2 x_3 x_4 x_5 x_6 z_7 x_9) (if_pos c_253))) _ _ ls hP hD hS (lv_sub hl [0, 1, 2, 3, 4, 5, 6, 7] rfl)
                  · refine lv_iconst (v := 2) hx hb dX8_roomOn_256 (by decide) ?_
                    refine lv_goto (tgt := 261) hx hb dX8_roomOn_257 (by decide) ?_
                    exact J_33 2 (if_neg c_253).symm (eS.trans (cg1 (sX8_roomOn_j261 jb f i x_1 x_2 x_3 x_4 x_5 x_6 z_7 x_9) (if_neg c_253))) _ _ ls hP hD hS (lv_sub hl [0, 1, 2, 3, 4, 5, 6, 7] rfl)
                refine lv_if_eq (tgt := 250) hx hb dX8_roomOn_243 (by decide) (fun c_243 => ?_) (fun c_243 => ?_)
                · refine lv_iconst (v := 0) hx hb dX8_roomOn_250 (by decide) ?_
                  exact J_32 0 (if_pos c_243).symm (eS.trans (cg1 (sX8_roomOn_j251 jb f i x_1 x_2 x_3 x_4 x_5 x_6 z_7) (if_pos c_243))) _ _ ls hP hD hS (lv_sub hl [0, 1, 2, 3, 4, 5, 6, 7] rfl)
                · refine lv_iconst (v := 1) hx hb dX8_roomOn_246 (by decide) ?_
                  refine lv_goto (tgt := 251) hx hb dX8_roomOn_247 (by decide) ?_
                  exact J_32 1 (if_neg c_243).symm (eS.trans (cg1 (sX8_roomOn_j251 jb f i x_1 x_2 x_3 x_4 x_5 x_6 z_7) (if_neg c_243))) _ _ ls hP hD hS (lv_sub hl [0, 1, 2, 3, 4, 5, 6, 7] rfl)
              · have eS := eS.trans (if_neg c_160)
                refine lv_iload hx hb dX8_roomOn_163 (lv_at hl 2 rfl) ?_
                have J_38 : ∀ (x_17 : Int32) (ex_17 : x_17 = (if x_3 = 0 then (sX8_of z_7 i 6) else (z_7 15))) (eS : sX8_roomOn jb f i = sX8_roomOn_j182 jb f i x_1 x_2 x_3 x_4 x_5 x_6 z_7 x_17) (H : Heap) (locs : List Loc) (ls : Array Slot) (hP : va_P G vwCl ([(h, .inr (8, moF b q)), ((b 7), .inl (kk 0, 6, .inl jb)), (ra, .inl (kk 0, 64, .inl z_7))]) H) (hD : va_D A ([(h, .inr (8, moF b q)), ((b 7), .inl (kk 0, 6, .inl jb)), (ra, .inl (kk 0, 64, .inl z_7))])) (hS : va_S A s.heap H locs) (hl : lv_has ls 9 [(7, .int x_5), (6, .int x_4), (5, .int x_3), (4, .int x_2), (3, .int x_1), (0, .ref h), (1, .ref ra), (2, .int (nI i))]), GO p l e (rmO 2 43) s m ([.ref h, .ref ra, .int (nI i)] : List Value).toArray below meth c A (QV G kk ([(h, .inr (8, moF b q)), ((b 7), .inl (kk 0, 6, .inl jb)), (ra, .inl (kk 0, 64, .inl (sX8_roomOn jb f i)))])) H locs (F0 m 182 ls [.int x_17]) := by
                  intro x_17 ex_17 eS H locs ls hP hD hS hl
                  refine lv_iconst (v := 1) hx hb dX8_roomOn_182 (by decide) ?_
                  refine lv_isub hx hb dX8_roomOn_183 ?_
                  refine lv_istore (lv' := [(8, .int (x_17 - 1)), (7, .int x_5), (6, .int x_4), (5, .int x_3), (4, .int x_2), (3, .int x_1), (0, .ref h), (1, .ref ra), (2, .int (nI i))]) hx hb dX8_roomOn_184 hl (by decide) rfl (fun ls hl => ?_)
                  refine lv_aload_n hx hb dX8_roomOn_186 rfl (lv_at hl 7 rfl) ?_
                  refine lv_iload_n hx hb dX8_roomOn_187 rfl (lv_at hl 8 rfl) ?_
                  refine lv_iconst (v := 5) hx hb dX8_roomOn_188 (by decide) ?_
                  refine lv_aload_n hx hb dX8_roomOn_189 rfl (lv_at hl 7 rfl) ?_
                  refine lv_iload_n hx hb dX8_roomOn_190 rfl (lv_at hl 8 rfl) ?_
                  refine lv_iconst (v := 5) hx hb dX8_roomOn_191 (by decide) ?_
                  refine k_goI (k_runS (rest := [.int 5, .int (nI i), .ref ra]) (As := [.ref ra, .int (nI i), .int 5]) hx hb hml hown hts hK hP hD hS hA hE hl.1 (c_X8_of l G kk ra z_7 i 5 (by omega)) sl_X8_44 ⟨Nat.le_of_ble_eq_true rfl, Nat.le_of_ble_eq_true rfl, rfl, rfl⟩ [2] rfl rfl ⟨Nat.zero_le _, Nat.zero_le _⟩ rfl (Nat.le_of_ble_eq_true rfl) dX8_roomOn_192) hP hD hS hA [2] rfl ads1 (fun H locs hP hD hS => ?_)
                  replace hP : va_P G vwCl ([(h, .inr (8, moF b q)), ((b 7), .inl (kk 0, 6, .inl jb)), (ra, .inl (kk 0, 64, .inl z_7))]) H := hP
                  replace hD : va_D A ([(h, .inr (8, moF b q)), ((b 7), .inl (kk 0, 6, .inl jb)), (ra, .inl (kk 0, 64, .inl z_7))]) := hD
                  refine lv_bipush (v := 10) hx hb dX8_roomOn_195 (by decide) ?_
                  refine lv_isub hx hb dX8_roomOn_197 ?_
                  refine lv_iconst (v := 0) hx hb dX8_roomOn_198 (by decide) ?_
                  refine lv_bipush (v := 100) hx hb dX8_roomOn_199 (by decide) ?_
                  refine k_goI (k_runS (rest := [.int 5, .int (nI i), .ref ra]) (As := [.int ((sX8_of z_7 i 5) - 10), .int 0, .int 100]) hx hb hml hown hts hK hP hD hS hA hE hl.1 (c_X8_clamp l G kk ((sX8_of z_7 i 5) - 10) 0 100 ) sl_X8_75 ⟨Nat.le_of_ble_eq_true rfl, Nat.le_of_ble_eq_true rfl, rfl, rfl⟩ [] rfl rfl ⟨Nat.zero_le _, Nat.zero_le _⟩ rfl (Nat.le_of_ble_eq_true rfl) dX8_roomOn_201) hP hD hS hA [] rfl ads0 (fun H locs hP hD hS => ?_)
                  replace hP : va_P G vwCl ([(h, .inr (8, moF b q)), ((b 7), .inl (kk 0, 6, .inl jb)), (ra, .inl (kk 0, 64, .inl z_7))]) H := hP
                  replace hD : va_D A ([(h, .inr (8, moF b q)), ((b 7), .inl (kk 0, 6, .inl jb)), (ra, .inl (kk 0, 64, .inl z_7))]) := hD
                  refine k_goV (k_runS (rest := []) (As := [.ref ra, .int (nI i), .int 5, .int (sX8_clamp ((sX8_of z_7 i 5) - 10) 0 100)]) hx hb hml hown hts hK hP hD hS hA hE hl.1 (c_X8_lay l G kk ra z_7 i 5 (sX8_clamp ((sX8_of z_7 i 5) - 10) 0 100) (by omega)) sl_X8_79 ⟨Nat.le_of_ble_eq_true rfl, Nat.le_of_ble_eq_true rfl, rfl, rfl⟩ [2] rfl rfl ⟨Nat.zero_le _, Nat.zero_le _⟩ rfl (Nat.le_of_ble_eq_true rfl) dX8_roomOn_204) hP hD hS hA [2] rfl ads1 (fun H locs hP hD hS => ?_)
                  replace hP : va_P G vwCl ([(h, .inr (8, moF b q)), ((b 7), .inl (kk 0, 6, .inl jb)), (ra, .inl (kk 0, 64, .inl (sX8_lay z_7 i 5 (sX8_clamp ((sX8_of z_7 i 5) - 10) 0 100))))]) H := hP
                  replace hD : va_D A ([(h, .inr (8, moF b q)), ((b 7), .inl (kk 0, 6, .inl jb)), (ra, .inl (kk 0, 64, .inl (sX8_lay z_7 i 5 (sX8_clamp ((sX8_of z_7 i 5) - 10) 0 100))))]) := hD
                  have eS : sX8_roomOn jb f i = sX8_roomOn_z_18 jb f i x_1 x_2 x_3 x_4 x_5 x_6 z_7 x_17 (sX8_lay z_7 i 5 (sX8_clamp ((sX8_of z_7 i 5) - 10) 0 100)) := eS
                  generalize sX8_lay z_7 i 5 (sX8_clamp ((sX8_of z_7 i 5) - 10) 0 100) = z_18 at hP hD eS ⊢
                  refine lv_aload_n hx hb dX8_roomOn_207 rfl (lv_at hl 7 rfl) ?_
                  refine lv_iload_n hx hb dX8_roomOn_208 rfl (lv_at hl 8 rfl) ?_
                  refine lv_bipush (v := 6) hx hb dX8_roomOn_209 (by decide) ?_
                  refine lv_aload_n hx hb dX8_roomOn_211 rfl (lv_at hl 7 rfl) ?_
                  refine lv_iload_n hx hb dX8_roomOn_212 rfl (lv_at hl 8 rfl) ?_
                  refine lv_iconst (v := 5) hx hb dX8_roomOn_213 (by decide) ?_
                  refine k_goI (k_runS (rest := [.int 6, .int (nI i), .ref ra]) (As := [.ref ra, .int (nI i), .int 5]) hx hb hml hown hts hK hP hD hS hA hE hl.1 (c_X8_of l G kk ra z_18 i 5 (by omega)) sl_X8_44 ⟨Nat.le_of_ble_eq_true rfl, Nat.le_of_ble_eq_true rfl, rfl, rfl⟩ [2] rfl rfl ⟨Nat.zero_le _, Nat.zero_le _⟩ rfl (Nat.le_of_ble_eq_true rfl) dX8_roomOn_214) hP hD hS hA [2] rfl ads1 (fun H locs hP hD hS => ?_)
                  replace hP : va_P G vwCl ([(h, .inr (8, moF b q)), ((b 7), .inl (kk 0, 6, .inl jb)), (ra, .inl (kk 0, 64, .inl z_18))]) H := hP
                  replace hD : va_D A ([(h, .inr (8, moF b q)), ((b 7), .inl (kk 0, 6, .inl jb)), (ra, .inl (kk 0, 64, .inl z_18))]) := hD
                  have J_39 : ∀ (x_19 : Int32) (ex_19 : x_19 = (if (sX8_of z_18 i 5) = 0 then 0 else (x_17 - 1))) (eS : sX8_roomOn jb f i = sX8_roomOn_j226 jb f i x_1 x_2 x_3 x_4 x_5 x_6 z_7 x_17 z_18 x_19) (H : Heap) (locs : List Loc) (ls : Array Slot) (hP : va_P G vwCl ([(h, .inr (8, moF b q)), ((b 7), .inl (kk 0, 6, .inl jb)), (ra, .inl (kk 0, 64, .inl z_18))]) H) (hD : va_D A ([(h, .inr (8, moF b q)), ((b 7), .inl (kk 0, 6, .inl jb)), (ra, .inl (kk 0, 64, .inl z_18))])) (hS : va_S A s.heap H locs) (hl : lv_has ls 9 [(8, .int (x_17 - 1)), (7, .int x_5), (6, .int x_4), (5, .int x_3), (4, .int x_2), (3, .int x_1), (0, .ref h), (1, .ref ra), (2, .int (nI i))]), GO p l e (rmO 2 43) s m ([.ref h, .ref ra, .int (nI i)] : List Value).toArray below meth c A (QV G kk ([(h, .inr (8, moF b q)), ((b 7), .inl (kk 0, 6, .inl jb)), (ra, .inl (kk 0, 64, .inl (sX8_roomOn jb f i)))])) H locs (F0 m 226 ls [.int x_19, .int 6, .int (nI i), .ref ra]) := by
                    intro x_19 ex_19 eS H locs ls hP hD hS hl
                    refine k_goV (k_runS (rest := []) (As := [.ref ra, .int (nI i), .int 6, .int x_19]) hx hb hml hown hts hK hP hD hS hA hE hl.1 (c_X8_lay l G kk ra z_18 i 6 x_19 (by omega)) sl_X8_79 ⟨Nat.le_of_ble_eq_true rfl, Nat.le_of_ble_eq_true rfl, rfl, rfl⟩ [2] rfl rfl ⟨Nat.zero_le _, Nat.zero_le _⟩ rfl (Nat.le_of_ble_eq_true rfl) dX8_roomOn_226) hP hD hS hA [2] rfl ads1 (fun H locs hP hD hS => ?_)
                    replace hP : va_P G vwCl ([(h, .inr (8, moF b q)), ((b 7), .inl (kk 0, 6, .inl jb)), (ra, .inl (kk 0, 64, .inl (sX8_lay z_18 i 6 x_19)))]) H := hP
                    replace hD : va_D A ([(h, .inr (8, moF b q)), ((b 7), .inl (kk 0, 6, .inl jb)), (ra, .inl (kk 0, 64, .inl (sX8_lay z_18 i 6 x_19)))]) := hD
                    have eS : sX8_roomOn jb f i = sX8_roomOn_z_20 jb f i x_1 x_2 x_3 x_4 x_5 x_6 z_7 x_17 z_18 x_19 (sX8_lay z_18 i 6 x_19) := eS
                    generalize sX8_lay z_18 i 6 x_19 = z_20 at hP hD eS ⊢
                    refine lv_goto (tgt := 271) hx hb dX8_roomOn_229 (by decide) ?_
                    refine lv_aload_n hx hb dX8_roomOn_271 rfl (lv_at hl 7 rfl) ?_
                    refine lv_iload_n hx hb dX8_roomOn_272 rfl (lv_at hl 8 rfl) ?_
                    refine lv_bipush (v := 7) hx hb dX8_roomOn_273 (by decide) ?_
                    refine lv_aload_n hx hb dX8_roomOn_275 rfl (lv_at hl 7 rfl) ?_
                    refine lv_iload_n hx hb dX8_roomOn_276 rfl (lv_at hl 8 rfl) ?_
                    refine lv_bipush (v := 7) hx hb dX8_roomOn_277 (by decide) ?_
                    refine k_goI (k_runS (rest := [.int 7, .int (nI i), .ref ra]) (As := [.ref ra, .int (nI i), .int 7]) hx hb hml hown hts hK hP hD hS hA hE hl.1 (c_X8_of l G kk ra z_20 i 7 (by omega)) sl_X8_44 ⟨Nat.le_of_ble_eq_true rfl, Nat.le_of_ble_eq_true rfl, rfl, rfl⟩ [2] rfl rfl ⟨Nat.zero_le _, Nat.zero_le _⟩ rfl (Nat.le_of_ble_eq_true rfl) dX8_roomOn_279) hP hD hS hA [2] rfl ads1 (fun H locs hP hD hS => ?_)
                    replace hP : va_P G vwCl ([(h, .inr (8, moF b q)), ((b 7), .inl (kk 0, 6, .inl jb)), (ra, .inl (kk 0, 64, .inl z_20))]) H := hP
                    replace hD : va_D A ([(h, .inr (8, moF b q)), ((b 7), .inl (kk 0, 6, .inl jb)), (ra, .inl (kk 0, 64, .inl z_20))]) := hD
                    refine lv_iload hx hb dX8_roomOn_282 (lv_at hl 4 rfl) ?_
                    have J_40 : ∀ (x_21 : Int32) (ex_21 : x_21 = (if x_2 = 0 then 0 else 1)) (eS : sX8_roomOn jb f i = sX8_roomOn_j292' jb f i x_1 x_2 x_3 x_4 x_5 x_6 z_7 x_17 z_18 x_19 z_20 x_21) (H : Heap) (locs : List Loc) (ls : Array Slot) (hP : va_P G vwCl ([(h, .inr (8, moF b q)), ((b 7), .inl (kk 0, 6, .inl jb)), (ra, .inl (kk 0, 64, .inl z_20))]) H) (hD : va_D A ([(h, .inr (8, moF b q)), ((b 7), .inl (kk 0, 6, .inl jb)), (ra, .inl (kk 0, 64, .inl z_20))])) (hS : va_S A s.heap H locs) (hl : lv_has ls 9 [(8, .int (x_17 - 1)), (7, .int x_5), (6, .int x_4), (5, .int x_3), (4, .int x_2), (3, .int x_1), (0, .ref h), (1, .ref ra), (2, .int (nI i))]), GO p l e (rmO 2 43) s m ([.ref h, .ref ra, .int (nI i)] : List Value).toArray below meth c A (QV G kk ([(h, .inr (8, moF b q)), ((b 7), .inl (kk 0, 6, .inl jb)), (ra, .inl (kk 0, 64, .inl (sX8_roomOn jb f i)))])) H locs (F0 m 292 ls [.int x_21, .int (sX8_of z_20 i 7), .int 7, .int (nI i), .ref ra]) := by
                      intro x_21 ex_21 eS H locs ls hP hD hS hl
                      refine lv_iadd hx hb dX8_roomOn_292 ?_
                      refine k_goV (k_runS (rest := []) (As := [.ref ra, .int (nI i), .int 7, .int ((sX8_of z_20 i 7) + x_21)]) hx hb hml hown hts hK hP hD hS hA hE hl.1 (c_X8_lay l G kk ra z_20 i 7 ((sX8_of z_20 i 7) + x_21) (by omega)) sl_X8_79 ⟨Nat.le_of_ble_eq_true rfl, Nat.le_of_ble_eq_true rfl, rfl, rfl⟩ [2] rfl rfl ⟨Nat.zero_le _, Nat.zero_le _⟩ rfl (Nat.le_of_ble_eq_true rfl) dX8_roomOn_293) hP hD hS hA [2] rfl ads1 (fun H locs hP hD hS => ?_)
                      replace hP : va_P G vwCl ([(h, .inr (8, moF b q)), ((b 7), .inl (kk 0, 6, .inl jb)), (ra, .inl (kk 0, 64, .inl (sX8_lay z_20 i 7 ((sX8_of z_20 i 7) + x_21))))]) H := hP
                      replace hD : va_D A ([(h, .inr (8, moF b q)), ((b 7), .inl (kk 0, 6, .inl jb)), (ra, .inl (kk 0, 64, .inl (sX8_lay z_20 i 7 ((sX8_of z_20 i 7) + x_21))))]) := hD
                      have eS : sX8_roomOn jb f i = sX8_roomOn_z_22 jb f i x_1 x_2 x_3 x_4 x_5 x_6 z_7 x_17 z_18 x_19 z_20 x_21 (sX8_lay z_20 i 7 ((sX8_of z_20 i 7) + x_21)) := eS
                      generalize sX8_lay z_20 i 7 ((sX8_of z_20 i 7) + x_21) = z_22 at hP hD eS ⊢
                      refine lv_aload_n hx hb dX8_roomOn_296 rfl (lv_at hl 7 rfl) ?_
                      refine lv_bipush (v := 6) hx hb dX8_roomOn_297 (by decide) ?_
                      refine lv_dup2_11 hx hb dX8_roomOn_299 rfl rfl ?_
                      refine r_iald hx hb hK hP 2 rfl 6 rfl (by decide) (by decide) dX8_roomOn_300 ?_
                      refine lv_iload hx hb dX8_roomOn_301 (lv_at hl 3 rfl) ?_
                      have J_41 : ∀ (x_23 : Int32) (ex_23 : x_23 = (if x_3 = 0 then 0 else 1)) (eS : sX8_roomOn jb f i = sX8_roomOn_j311' jb f i x_1 x_2 x_3 x_4 x_5 x_6 z_7 x_17 z_18 x_19 z_20 x_21 z_22 x_23) (H : Heap) (locs : List Loc) (ls : Array Slot) (hP : va_P G vwCl ([(h, .inr (8, moF b q)), ((b 7), .inl (kk 0, 6, .inl jb)), (ra, .inl (kk 0, 64, .inl z_22))]) H) (hD : va_D A ([(h, .inr (8, moF b q)), ((b 7), .inl (kk 0, 6, .inl jb)), (ra, .inl (kk 0, 64, .inl z_22))])) (hS : va_S A s.heap H locs) (hl : lv_has ls 9 [(8, .int (x_17 - 1)), (7, .int x_5), (6, .int x_4), (5, .int x_3), (4, .int x_2), (3, .int x_1), (0, .ref h), (1, .ref ra), (2, .int (nI i))]), GO p l e (rmO 2 43) s m ([.ref h, .ref ra, .int (nI i)] : List Value).toArray below meth c A (QV G kk ([(h, .inr (8, moF b q)), ((b 7), .inl (kk 0, 6, .inl jb)), (ra, .inl (kk 0, 64, .inl (sX8_roomOn jb f i)))])) H locs (F0 m 311 ls [.int x_23, .int (z_22 6), .int 6, .ref ra]) := by
                        intro x_23 ex_23 eS H locs ls hP hD hS hl
                        refine lv_iadd hx hb dX8_roomOn_311 ?_
                        refine r_iast hx hb hK hP hD hS 2 rfl 6 rfl (by decide) (by decide) dX8_roomOn_312 (fun H locs hP hD hS => ?_)
                        replace hP : va_P G vwCl ([(h, .inr (8, moF b q)), ((b 7), .inl (kk 0, 6, .inl jb)), (ra, .inl (kk 0, 64, .inl (upd z_22 6 ((z_22 6) + x_23))))]) H := hP
                        replace hD : va_D A ([(h, .inr (8, moF b q)), ((b 7), .inl (kk 0, 6, .inl jb)), (ra, .inl (kk 0, 64, .inl (upd z_22 6 ((z_22 6) + x_23))))]) := hD
                        refine lv_aload_n hx hb dX8_roomOn_313 rfl (lv_at hl 7 rfl) ?_
                        refine lv_bipush (v := 7) hx hb dX8_roomOn_314 (by decide) ?_
                        refine lv_dup2_11 hx hb dX8_roomOn_316 rfl rfl ?_
                        refine r_iald hx hb hK hP 2 rfl 7 rfl (by decide) (by decide) dX8_roomOn_317 ?_
                        refine top_eq (y := (z_22 7)) (pk_un (by decide)) ?_
                        refine lv_aload_n hx hb dX8_roomOn_318 rfl (lv_at hl 6 rfl) ?_
                        refine r_get (v := .ref (b 7)) hx hb hts hown hK hP fl_X8_29 0 rfl rfl dX8_roomOn_319 ?_
                        refine lv_iload_n hx hb dX8_roomOn_322 rfl (lv_at hl 8 rfl) ?_
                        refine r_iald hx hb hK hP 1 rfl i rfl (by omega) (by decide) dX8_roomOn_323 ?_
                        refine lv_iconst (v := 4) hx hb dX8_roomOn_324 (by decide) ?_
                        have J_42 : ∀ (x_24 : Int32) (ex_24 : x_24 = (if (jb i) = 4 then 1 else 0)) (eS : sX8_roomOn jb f i = sX8_roomOn_j333' jb f i x_1 x_2 x_3 x_4 x_5 x_6 z_7 x_17 z_18 x_19 z_20 x_21 z_22 x_23 x_24) (H : Heap) (locs : List Loc) (ls : Array Slot) (hP : va_P G vwCl ([(h, .inr (8, moF b q)), ((b 7), .inl (kk 0, 6, .inl jb)), (ra, .inl (kk 0, 64, .inl (upd z_22 6 ((z_22 6) + x_23))))]) H) (hD : va_D A ([(h, .inr (8, moF b q)), ((b 7), .inl (kk 0, 6, .inl jb)), (ra, .inl (kk 0, 64, .inl (upd z_22 6 ((z_22 6) + x_23))))])) (hS : va_S A s.heap H locs) (hl : lv_has ls 9 [(8, .int (x_17 - 1)), (7, .int x_5), (6, .int x_4), (5, .int x_3), (4, .int x_2), (3, .int x_1), (0, .ref h), (1, .ref ra), (2, .int (nI i))]), GO p l e (rmO 2 43) s m ([.ref h, .ref ra, .int (nI i)] : List Value).toArray below meth c A (QV G kk ([(h, .inr (8, moF b q)), ((b 7), .inl (kk 0, 6, .inl jb)), (ra, .inl (kk 0, 64, .inl (sX8_roomOn jb f i)))])) H locs (F0 m 333 ls [.int x_24, .int (z_22 7), .int 7, .ref ra]) := by
                          intro x_24 ex_24 eS H locs ls hP hD hS hl
                          refine lv_iadd hx hb dX8_roomOn_333 ?_
                          refine r_iast hx hb hK hP hD hS 2 rfl 7 rfl (by decide) (by decide) dX8_roomOn_334 (fun H locs hP hD hS => ?_)
                          replace hP : va_P G vwCl ([(h, .inr (8, moF b q)), ((b 7), .inl (kk 0, 6, .inl jb)), (ra, .inl (kk 0, 64, .inl (upd (upd z_22 6 ((z_22 6) + x_23)) 7 ((z_22 7) + x_24))))]) H := hP
                          replace hD : va_D A ([(h, .inr (8, moF b q)), ((b 7), .inl (kk 0, 6, .inl jb)), (ra, .inl (kk 0, 64, .inl (upd (upd z_22 6 ((z_22 6) + x_23)) 7 ((z_22 7) + x_24))))]) := hD
                          refine lv_aload_n hx hb dX8_roomOn_335 rfl (lv_at hl 7 rfl) ?_
                          refine lv_bipush (v := 8) hx hb dX8_roomOn_336 (by decide) ?_
                          refine lv_dup2_11 hx hb dX8_roomOn_338 rfl rfl ?_
                          refine r_iald hx hb hK hP 2 rfl 8 rfl (by decide) (by decide) dX8_roomOn_339 ?_
                          refine top_eq (y := (z_22 8)) ((pk_un (by decide)).trans (pk_un (by decide))) ?_
                          refine lv_aload_n hx hb dX8_roomOn_340 rfl (lv_at hl 6 rfl) ?_
                          refine r_get (v := .ref (b 7)) hx hb hts hown hK hP fl_X8_29 0 rfl rfl dX8_roomOn_341 ?_
                          refine lv_iload_n hx hb dX8_roomOn_344 rfl (lv_at hl 8 rfl) ?_
                          refine r_iald hx hb hK hP 1 rfl i rfl (by omega) (by decide) dX8_roomOn_345 ?_
                          refine lv_bipush (v := 6) hx hb dX8_roomOn_346 (by decide) ?_
                          have J_43 : ∀ (x_25 : Int32) (ex_25 : x_25 = (if (jb i) = 6 then 1 else 0)) (eS : sX8_roomOn jb f i = sX8_roomOn_j356' jb f i x_1 x_2 x_3 x_4 x_5 x_6 z_7 x_17 z_18 x_19 z_20 x_21 z_22 x_23 x_24 x_25) (H : Heap) (locs : List Loc) (ls : Array Slot) (hP : va_P G vwCl ([(h, .inr (8, moF b q)), ((b 7), .inl (kk 0, 6, .inl jb)), (ra, .inl (kk 0, 64, .inl (upd (upd z_22 6 ((z_22 6) + x_23)) 7 ((z_22 7) + x_24))))]) H) (hD : va_D A ([(h, .inr (8, moF b q)), ((b 7), .inl (kk 0, 6, .inl jb)), (ra, .inl (kk 0, 64, .inl (upd (upd z_22 6 ((z_22 6) + x_23)) 7 ((z_22 7) + x_24))))])) (hS : va_S A s.heap H locs) (hl : lv_has ls 9 [(8, .int (x_17 - 1)), (7, .int x_5), (6, .int x_4), (5, .int x_3), (4, .int x_2), (3, .int x_1), (0, .ref h), (1, .ref ra), (2, .int (nI i))]), GO p l e (rmO 2 43) s m ([.ref h, .ref ra, .int (nI i)] : List Value).toArray below meth c A (QV G kk ([(h, .inr (8, moF b q)), ((b 7), .inl (kk 0, 6, .inl jb)), (ra, .inl (kk 0, 64, .inl (sX8_roomOn jb f i)))])) H locs (F0 m 356 ls [.int x_25, .int (z_22 8), .int 8, .ref ra]) := by
                            intro x_25 ex_25 eS H locs ls hP hD hS hl
                            refine lv_iadd hx hb dX8_roomOn_356 ?_
                            refine r_iast hx hb hK hP hD hS 2 rfl 8 rfl (by decide) (by decide) dX8_roomOn_357 (fun H locs hP hD hS => ?_)
                            replace hP : va_P G vwCl ([(h, .inr (8, moF b q)), ((b 7), .inl (kk 0, 6, .inl jb)), (ra, .inl (kk 0, 64, .inl (upd (upd (upd z_22 6 ((z_22 6) + x_23)) 7 ((z_22 7) + x_24)) 8 ((z_22 8) + x_25))))]) H := hP
                            replace hD : va_D A ([(h, .inr (8, moF b q)), ((b 7), .inl (kk 0, 6, .inl jb)), (ra, .inl (kk 0, 64, .inl (upd (upd (upd z_22 6 ((z_22 6) + x_23)) 7 ((z_22 7) + x_24)) 8 ((z_22 8) + x_25))))]) := hD
                            refine lv_aload_n hx hb dX8_roomOn_358 rfl (lv_at hl 7 rfl) ?_
                            refine lv_bipush (v := 9) hx hb dX8_roomOn_359 (by decide) ?_
                            refine lv_dup2_11 hx hb dX8_roomOn_361 rfl rfl ?_
                            refine r_iald hx hb hK hP 2 rfl 9 rfl (by decide) (by decide) dX8_roomOn_362 ?_
                            refine top_eq (y := (z_22 9)) ((pk_un (by decide)).trans ((pk_un (by decide)).trans (pk_un (by decide)))) ?_
                            refine lv_aload_n hx hb dX8_roomOn_363 rfl (lv_at hl 7 rfl) ?_
                            refine lv_iload_n hx hb dX8_roomOn_364 rfl (lv_at hl 8 rfl) ?_
                            refine k_goI (k_runS (rest := [.int (z_22 9), .int 9, .ref ra]) (As := [.ref ra, .int (nI i)]) hx hb hml hown hts hK hP hD hS hA hE hl.1 (c_X8_isWarm l G kk ra (upd (upd (upd z_22 6 ((z_22 6) + x_23)) 7 ((z_22 7) + x_24)) 8 ((z_22 8) + x_25)) i (by omega)) sl_X8_55 ⟨Nat.le_of_ble_eq_true rfl, Nat.le_of_ble_eq_true rfl, rfl, rfl⟩ [2] rfl rfl ⟨Nat.zero_le _, Nat.zero_le _⟩ rfl (Nat.le_of_ble_eq_true rfl) dX8_roomOn_365) hP hD hS hA [2] rfl ads1 (fun H locs hP hD hS => ?_)
                            replace hP : va_P G vwCl ([(h, .inr (8, moF b q)), ((b 7), .inl (kk 0, 6, .inl jb)), (ra, .inl (kk 0, 64, .inl (upd (upd (upd z_22 6 ((z_22 6) + x_23)) 7 ((z_22 7) + x_24)) 8 ((z_22 8) + x_25))))]) H := hP
                            replace hD : va_D A ([(h, .inr (8, moF b q)), ((b 7), .inl (kk 0, 6, .inl jb)), (ra, .inl (kk 0, 64, .inl (upd (upd (upd z_22 6 ((z_22 6) + x_23)) 7 ((z_22 7) + x_24)) 8 ((z_22 8) + x_25))))]) := hD
                            refine lv_if_eq (tgt := 375) hx hb dX8_roomOn_368 (by decide) (fun c_368 => ?_) (fun c_368 => ?_)
                            · have eS := eS.trans (if_pos c_368)
                              refine lv_iconst (v := 0) hx hb dX8_roomOn_375 (by decide) ?_
                              refine lv_iadd hx hb dX8_roomOn_376 ?_
                              refine r_iast hx hb hK hP hD hS 2 rfl 9 rfl (by decide) (by decide) dX8_roomOn_377 (fun H locs hP hD hS => ?_)
                              replace hP : va_P G vwCl ([(h, .inr (8, moF b q)), ((b 7), .inl (kk 0, 6, .inl jb)), (ra, .inl (kk 0, 64, .inl (upd (upd (upd (upd z_22 6 ((z_22 6) + x_23)) 7 ((z_22 7) + x_24)) 8 ((z_22 8) + x_25)) 9 ((z_22 9) + 0))))]) H := hP
                              replace hD : va_D A ([(h, .inr (8, moF b q)), ((b 7), .inl (kk 0, 6, .inl jb)), (ra, .inl (kk 0, 64, .inl (upd (upd (upd (upd z_22 6 ((z_22 6) + x_23)) 7 ((z_22 7) + x_24)) 8 ((z_22 8) + x_25)) 9 ((z_22 9) + 0))))]) := hD
                              exact fin_v hx hb hr hlocks hK (vP_eq (congrArg (fun z : (Nat → Int32) => ([(h, .inr (8, moF b q)), ((b 7), .inl (kk 0, 6, .inl jb)), (ra, .inl (kk 0, 64, .inl z))] : va_W)) eS.symm) hP) (vD_eq (congrArg (fun z : (Nat → Int32) => ([(h, .inr (8, moF b q)), ((b 7), .inl (kk 0, 6, .inl jb)), (ra, .inl (kk 0, 64, .inl z))] : va_W)) eS.symm) hD) hS dX8_roomOn_378
                            · have eS := eS.trans (if_neg c_368)
                              refine lv_iconst (v := 1) hx hb dX8_roomOn_371 (by decide) ?_
                              refine lv_goto (tgt := 376) hx hb dX8_roomOn_372 (by decide) ?_
                              refine lv_iadd hx hb dX8_roomOn_376 ?_
                              refine r_iast hx hb hK hP hD hS 2 rfl 9 rfl (by decide) (by decide) dX8_roomOn_377 (fun H locs hP hD hS => ?_)
                              replace hP : va_P G vwCl ([(h, .inr (8, moF b q)), ((b 7), .inl (kk 0, 6, .inl jb)), (ra, .inl (kk 0, 64, .inl (upd (upd (upd (upd z_22 6 ((z_22 6) + x_23)) 7 ((z_22 7) + x_24)) 8 ((z_22 8) + x_25)) 9 ((z_22 9) + 1))))]) H := hP
                              replace hD : va_D A ([(h, .inr (8, moF b q)), ((b 7), .inl (kk 0, 6, .inl jb)), (ra, .inl (kk 0, 64, .inl (upd (upd (upd (upd z_22 6 ((z_22 6) + x_23)) 7 ((z_22 7) + x_24)) 8 ((z_22 8) + x_25)) 9 ((z_22 9) + 1))))]) := hD
                              exact fin_v hx hb hr hlocks hK (vP_eq (congrArg (fun z : (Nat → Int32) => ([(h, .inr (8, moF b q)), ((b 7), .inl (kk 0, 6, .inl jb)), (ra, .inl (kk 0, 64, .inl z))] : va_W)) eS.symm) hP) (vD_eq (congrArg (fun z : (Nat → Int32) => ([(h, .inr (8, moF b q)), ((b 7), .inl (kk 0, 6, .inl jb)), (ra, .inl (kk 0, 64, .inl z))] : va_W)) eS.symm) hD) hS dX8_roomOn_378
                          refine lv_icmp_ne (tgt := 355) hx hb dX8_roomOn_348 (by decide) (fun c_348 => ?_) (fun c_348 => ?_)
                          · refine lv_iconst (v := 0) hx hb dX8_roomOn_355 (by decide) ?_
                            exact J_43 0 (if_neg c_348).symm (eS.trans (cg1 (sX8_roomOn_j356' jb f i x_1 x_2 x_3 x_4 x_5 x_6 z_7 x_17 z_18 x_19 z_20 x_21 z_22 x_23 x_24) (if_neg c_348))) _ _ ls hP hD hS (lv_sub hl [0, 1, 2, 3, 4, 5, 6, 7, 8] rfl)
                          · refine lv_iconst (v := 1) hx hb dX8_roomOn_351 (by decide) ?_
                            refine lv_goto (tgt := 356) hx hb dX8_roomOn_352 (by decide) ?_
                            exact J_43 1 (if_pos c_348).symm (eS.trans (cg1 (sX8_roomOn_j356' jb f i x_1 x_2 x_3 x_4 x_5 x_6 z_7 x_17 z_18 x_19 z_20 x_21 z_22 x_23 x_24) (if_pos c_348))) _ _ ls hP hD hS (lv_sub hl [0, 1, 2, 3, 4, 5, 6, 7, 8] rfl)
                        refine lv_icmp_ne (tgt := 332) hx hb dX8_roomOn_325 (by decide) (fun c_325 => ?_) (fun c_325 => ?_)
                        · refine lv_iconst (v := 0) hx hb dX8_roomOn_332 (by decide) ?_
                          exact J_42 0 (if_neg c_325).symm (eS.trans (cg1 (sX8_roomOn_j333' jb f i x_1 x_2 x_3 x_4 x_5 x_6 z_7 x_17 z_18 x_19 z_20 x_21 z_22 x_23) (if_neg c_325))) _ _ ls hP hD hS (lv_sub hl [0, 1, 2, 3, 4, 5, 6, 7, 8] rfl)
                        · refine lv_iconst (v := 1) hx hb dX8_roomOn_328 (by decide) ?_
                          refine lv_goto (tgt := 333) hx hb dX8_roomOn_329 (by decide) ?_
                          exact J_42 1 (if_pos c_325).symm (eS.trans (cg1 (sX8_roomOn_j333' jb f i x_1 x_2 x_3 x_4 x_5 x_6 z_7 x_17 z_18 x_19 z_20 x_21 z_22 x_23) (if_pos c_325))) _ _ ls hP hD hS (lv_sub hl [0, 1, 2, 3, 4, 5, 6, 7, 8] rfl)
                      refine lv_if_eq (tgt := 310) hx hb dX8_roomOn_303 (by decide) (fun c_303 => ?_) (fun c_303 => ?_)
                      · refine lv_iconst (v := 0) hx hb dX8_roomOn_310 (by decide) ?_
                        exact J_41 0 (if_pos c_303).symm (eS.trans (cg1 (sX8_roomOn_j311' jb f i x_1 x_2 x_3 x_4 x_5 x_6 z_7 x_17 z_18 x_19 z_20 x_21 z_22) (if_pos c_303))) _ _ ls hP hD hS (lv_sub hl [0, 1, 2, 3, 4, 5, 6, 7, 8] rfl)
                      · refine lv_iconst (v := 1) hx hb dX8_roomOn_306 (by decide) ?_
                        refine lv_goto (tgt := 311) hx hb dX8_roomOn_307 (by decide) ?_
                        exact J_41 1 (if_neg c_303).symm (eS.trans (cg1 (sX8_roomOn_j311' jb f i x_1 x_2 x_3 x_4 x_5 x_6 z_7 x_17 z_18 x_19 z_20 x_21 z_22) (if_neg c_303))) _ _ ls hP hD hS (lv_sub hl [0, 1, 2, 3, 4, 5, 6, 7, 8] rfl)
                    refine lv_if_eq (tgt := 291) hx hb dX8_roomOn_284 (by decide) (fun c_284 => ?_) (fun c_284 => ?_)
                    · refine lv_iconst (v := 0) hx hb dX8_roomOn_291 (by decide) ?_
                      exact J_40 0 (if_pos c_284).symm (eS.trans (cg1 (sX8_roomOn_j292' jb f i x_1 x_2 x_3 x_4 x_5 x_6 z_7 x_17 z_18 x_19 z_20) (if_pos c_284))) _ _ ls hP hD hS (lv_sub hl [0, 1, 2, 3, 4, 5, 6, 7, 8] rfl)
                    · refine lv_iconst (v := 1) hx hb dX8_roomOn_287 (by decide) ?_
                      refine lv_goto (tgt := 292) hx hb dX8_roomOn_288 (by decide) ?_
                      exact J_40 1 (if_neg c_284).symm (eS.trans (cg1 (sX8_roomOn_j292' jb f i x_1 x_2 x_3 x_4 x_5 x_6 z_7 x_17 z_18 x_19 z_20) (if_neg c_284))) _ _ ls hP hD hS (lv_sub hl [0, 1, 2, 3, 4, 5, 6, 7, 8] rfl)
                  refine lv_if_ne (tgt := 224) hx hb dX8_roomOn_217 (by decide) (fun c_217 => ?_) (fun c_217 => ?_)
                  · refine lv_iload hx hb dX8_roomOn_224 (lv_at hl 0 rfl) ?_
                    exact J_39 (x_17 - 1) (if_neg c_217).symm (eS.trans (cg1 (sX8_roomOn_j226 jb f i x_1 x_2 x_3 x_4 x_5 x_6 z_7 x_17 z_18) (if_neg c_217))) _ _ ls hP hD hS (lv_sub hl [0, 1, 2, 3, 4, 5, 6, 7, 8] rfl)
                  · refine lv_iconst (v := 0) hx hb dX8_roomOn_220 (by decide) ?_
                    refine lv_goto (tgt := 226) hx hb dX8_roomOn_221 (by decide) ?_
                    exact J_39 0 (if_pos c_217).symm (eS.trans (cg1 (sX8_roomOn_j226 jb f i x_1 x_2 x_3 x_4 x_5 x_6 z_7 x_17 z_18) (if_pos c_217))) _ _ ls hP hD hS (lv_sub hl [0, 1, 2, 3, 4, 5, 6, 7, 8] rfl)
                refine lv_if_eq (tgt := 175) hx hb dX8_roomOn_165 (by decide) (fun c_165 => ?_) (fun c_165 => ?_)
                · refine lv_aload_n hx hb dX8_roomOn_175 rfl (lv_at hl 6 rfl) ?_
                  refine lv_iload_n hx hb dX8_roomOn_176 rfl (lv_at hl 7 rfl) ?_
                  refine lv_bipush (v := 6) hx hb dX8_roomOn_177 (by decide) ?_
                  refine k_goI (k_runS (rest := []) (As := [.ref ra, .int (nI i), .int 6]) hx hb hml hown hts hK hP hD hS hA hE hl.1 (c_X8_of l G kk ra z_7 i 6 (by omega)) sl_X8_44 ⟨Nat.le_of_ble_eq_true rfl, Nat.le_of_ble_eq_true rfl, rfl, rfl⟩ [2] rfl rfl ⟨Nat.zero_le _, Nat.zero_le _⟩ rfl (Nat.le_of_ble_eq_true rfl) dX8_roomOn_179) hP hD hS hA [2] rfl ads1 (fun H locs hP hD hS => ?_)
                  replace hP : va_P G vwCl ([(h, .inr (8, moF b q)), ((b 7), .inl (kk 0, 6, .inl jb)), (ra, .inl (kk 0, 64, .inl z_7))]) H := hP
                  replace hD : va_D A ([(h, .inr (8, moF b q)), ((b 7), .inl (kk 0, 6, .inl jb)), (ra, .inl (kk 0, 64, .inl z_7))]) := hD
                  exact J_38 (sX8_of z_7 i 6) (if_pos c_165).symm (eS.trans (cg1 (sX8_roomOn_j182 jb f i x_1 x_2 x_3 x_4 x_5 x_6 z_7) (if_pos c_165))) _ _ ls hP hD hS (lv_sub hl [0, 1, 2, 3, 4, 5, 6, 7] rfl)
                · refine lv_aload_n hx hb dX8_roomOn_168 rfl (lv_at hl 6 rfl) ?_
                  refine lv_bipush (v := 15) hx hb dX8_roomOn_169 (by decide) ?_
                  refine r_iald hx hb hK hP 2 rfl 15 rfl (by decide) (by decide) dX8_roomOn_171 ?_
                  refine lv_goto (tgt := 182) hx hb dX8_roomOn_172 (by decide) ?_
                  exact J_38 (z_7 15) (if_neg c_165).symm (eS.trans (cg1 (sX8_roomOn_j182 jb f i x_1 x_2 x_3 x_4 x_5 x_6 z_7) (if_neg c_165))) _ _ ls hP hD hS (lv_sub hl [0, 1, 2, 3, 4, 5, 6, 7] rfl)
            refine lv_if_eq (tgt := 144) hx hb dX8_roomOn_137 (by decide) (fun c_137 => ?_) (fun c_137 => ?_)
            · refine lv_iconst (v := 0) hx hb dX8_roomOn_144 (by decide) ?_
              exact J_31 0 (if_pos c_137).symm (eS.trans (cg1 (sX8_roomOn_j145 jb f i x_1 x_2 x_3 x_4 x_5) (if_pos c_137))) _ _ ls hP hD hS (lv_sub hl [0, 1, 2, 3, 4, 5, 6, 7] rfl)
            · refine lv_iconst (v := 4) hx hb dX8_roomOn_140 (by decide) ?_
              refine lv_goto (tgt := 145) hx hb dX8_roomOn_141 (by decide) ?_
              exact J_31 4 (if_neg c_137).symm (eS.trans (cg1 (sX8_roomOn_j145 jb f i x_1 x_2 x_3 x_4 x_5) (if_neg c_137))) _ _ ls hP hD hS (lv_sub hl [0, 1, 2, 3, 4, 5, 6, 7] rfl)
          refine lv_if_eq (tgt := 111) hx hb dX8_roomOn_93 (by decide) (fun c_93 => ?_) (fun c_93 => ?_)
          · refine lv_iload hx hb dX8_roomOn_111 (lv_at hl 0 rfl) ?_
            refine lv_if_eq (tgt := 121) hx hb dX8_roomOn_113 (by decide) (fun c_113 => ?_) (fun c_113 => ?_)
            · refine lv_iconst (v := 1) hx hb dX8_roomOn_121 (by decide) ?_
              exact J_30 1 ((if_pos c_93).trans (if_pos c_113)).symm (eS.trans (cg1 (sX8_roomOn_j122 jb f i x_1 x_2 x_3 x_4) ((if_pos c_93).trans (if_pos c_113)))) _ _ ls hP hD hS (lv_sub hl [0, 1, 2, 3, 4, 5, 6] rfl)
            · refine lv_bipush (v := 6) hx hb dX8_roomOn_116 (by decide) ?_
              refine lv_goto (tgt := 122) hx hb dX8_roomOn_118 (by decide) ?_
              exact J_30 6 ((if_pos c_93).trans (if_neg c_113)).symm (eS.trans (cg1 (sX8_roomOn_j122 jb f i x_1 x_2 x_3 x_4) ((if_pos c_93).trans (if_neg c_113)))) _ _ ls hP hD hS (lv_sub hl [0, 1, 2, 3, 4, 5, 6] rfl)
          · refine lv_aload_n hx hb dX8_roomOn_96 rfl (lv_at hl 5 rfl) ?_
            refine lv_iload_n hx hb dX8_roomOn_97 rfl (lv_at hl 6 rfl) ?_
            refine lv_iconst (v := 5) hx hb dX8_roomOn_98 (by decide) ?_
            refine k_goI (k_runS (rest := []) (As := [.ref ra, .int (nI i), .int 5]) hx hb hml hown hts hK hP hD hS hA hE hl.1 (c_X8_of l G kk ra f i 5 (by omega)) sl_X8_44 ⟨Nat.le_of_ble_eq_true rfl, Nat.le_of_ble_eq_true rfl, rfl, rfl⟩ [2] rfl rfl ⟨Nat.zero_le _, Nat.zero_le _⟩ rfl (Nat.le_of_ble_eq_true rfl) dX8_roomOn_99) hP hD hS hA [2] rfl ads1 (fun H locs hP hD hS => ?_)
            replace hP : va_P G vwCl ([(h, .inr (8, moF b q)), ((b 7), .inl (kk 0, 6, .inl jb)), (ra, .inl (kk 0, 64, .inl f))]) H := hP
            replace hD : va_D A ([(h, .inr (8, moF b q)), ((b 7), .inl (kk 0, 6, .inl jb)), (ra, .inl (kk 0, 64, .inl f))]) := hD
            refine lv_bipush (v := 20) hx hb dX8_roomOn_102 (by decide) ?_
            refine lv_idiv hx hb dX8_roomOn_104 (by decide) ?_
            refine lv_bipush (v := 8) hx hb dX8_roomOn_105 (by decide) ?_
            refine lv_isub hx hb dX8_roomOn_107 ?_
            refine lv_goto (tgt := 122) hx hb dX8_roomOn_108 (by decide) ?_
            exact J_30 (((sX8_of f i 5) / 20) - 8) (if_neg c_93).symm (eS.trans (cg1 (sX8_roomOn_j122 jb f i x_1 x_2 x_3 x_4) (if_neg c_93))) _ _ ls hP hD hS (lv_sub hl [0, 1, 2, 3, 4, 5, 6] rfl)
        refine lv_if_ne (tgt := 84) hx hb dX8_roomOn_72 (by decide) (fun c_72 => ?_) (fun c_72 => ?_)
        · refine lv_iconst (v := 1) hx hb dX8_roomOn_84 (by decide) ?_
          refine lv_goto (tgt := 89) hx hb dX8_roomOn_85 (by decide) ?_
          exact J_29 1 (if_neg c_72).symm (eS.trans (cg1 (sX8_roomOn_j89 jb f i x_1 x_2 x_3) (if_neg c_72))) _ _ ls hP hD hS (lv_sub hl [0, 1, 2, 3, 4, 5] rfl)
        · refine lv_aload_n hx hb dX8_roomOn_75 rfl (lv_at hl 3 rfl) ?_
          refine r_get (v := .ref (b 7)) hx hb hts hown hK hP fl_X8_29 0 rfl rfl dX8_roomOn_76 ?_
          refine lv_iload_n hx hb dX8_roomOn_79 rfl (lv_at hl 5 rfl) ?_
          refine r_iald hx hb hK hP 1 rfl i rfl (by omega) (by decide) dX8_roomOn_80 ?_
          refine lv_if_ne (tgt := 88) hx hb dX8_roomOn_81 (by decide) (fun c_81 => ?_) (fun c_81 => ?_)
          · refine lv_iconst (v := 0) hx hb dX8_roomOn_88 (by decide) ?_
            exact J_29 0 ((if_pos c_72).trans (if_neg c_81)).symm (eS.trans (cg1 (sX8_roomOn_j89 jb f i x_1 x_2 x_3) ((if_pos c_72).trans (if_neg c_81)))) _ _ ls hP hD hS (lv_sub hl [0, 1, 2, 3, 4, 5] rfl)
          · refine lv_iconst (v := 1) hx hb dX8_roomOn_84 (by decide) ?_
            refine lv_goto (tgt := 89) hx hb dX8_roomOn_85 (by decide) ?_
            exact J_29 1 ((if_pos c_72).trans (if_pos c_81)).symm (eS.trans (cg1 (sX8_roomOn_j89 jb f i x_1 x_2 x_3) ((if_pos c_72).trans (if_pos c_81)))) _ _ ls hP hD hS (lv_sub hl [0, 1, 2, 3, 4, 5] rfl)
      refine lv_icmp_eq (tgt := 63) hx hb dX8_roomOn_50 (by decide) (fun c_50 => ?_) (fun c_50 => ?_)
      · refine lv_iconst (v := 1) hx hb dX8_roomOn_63 (by decide) ?_
        refine lv_goto (tgt := 68) hx hb dX8_roomOn_64 (by decide) ?_
        exact J_28 1 (if_pos c_50).symm (eS.trans (cg1 (sX8_roomOn_j68 jb f i x_1 x_2) (if_pos c_50))) _ _ ls hP hD hS (lv_sub hl [0, 1, 2, 3, 4] rfl)
      · refine lv_aload_n hx hb dX8_roomOn_53 rfl (lv_at hl 2 rfl) ?_
        refine r_get (v := .ref (b 7)) hx hb hts hown hK hP fl_X8_29 0 rfl rfl dX8_roomOn_54 ?_
        refine lv_iload_n hx hb dX8_roomOn_57 rfl (lv_at hl 4 rfl) ?_
        refine r_iald hx hb hK hP 1 rfl i rfl (by omega) (by decide) dX8_roomOn_58 ?_
        refine lv_iconst (v := 2) hx hb dX8_roomOn_59 (by decide) ?_
        refine lv_icmp_ne (tgt := 67) hx hb dX8_roomOn_60 (by decide) (fun c_60 => ?_) (fun c_60 => ?_)
        · refine lv_iconst (v := 0) hx hb dX8_roomOn_67 (by decide) ?_
          exact J_28 0 ((if_neg c_50).trans (if_neg c_60)).symm (eS.trans (cg1 (sX8_roomOn_j68 jb f i x_1 x_2) ((if_neg c_50).trans (if_neg c_60)))) _ _ ls hP hD hS (lv_sub hl [0, 1, 2, 3, 4] rfl)
        · refine lv_iconst (v := 1) hx hb dX8_roomOn_63 (by decide) ?_
          refine lv_goto (tgt := 68) hx hb dX8_roomOn_64 (by decide) ?_
          exact J_28 1 ((if_neg c_50).trans (if_pos c_60)).symm (eS.trans (cg1 (sX8_roomOn_j68 jb f i x_1 x_2) ((if_neg c_50).trans (if_pos c_60)))) _ _ ls hP hD hS (lv_sub hl [0, 1, 2, 3, 4] rfl)
    refine lv_icmp_eq (tgt := 36) hx hb dX8_roomOn_23 (by decide) (fun c_23 => ?_) (fun c_23 => ?_)
    · refine lv_iconst (v := 1) hx hb dX8_roomOn_36 (by decide) ?_
      refine lv_goto (tgt := 41) hx hb dX8_roomOn_37 (by decide) ?_
      exact J_27 1 (if_pos c_23).symm (eS.trans (cg1 (sX8_roomOn_j41 jb f i x_1) (if_pos c_23))) _ _ ls hP hD hS (lv_sub hl [0, 1, 2, 3] rfl)
    · refine lv_aload_n hx hb dX8_roomOn_26 rfl (lv_at hl 1 rfl) ?_
      refine r_get (v := .ref (b 7)) hx hb hts hown hK hP fl_X8_29 0 rfl rfl dX8_roomOn_27 ?_
      refine lv_iload_n hx hb dX8_roomOn_30 rfl (lv_at hl 3 rfl) ?_
      refine r_iald hx hb hK hP 1 rfl i rfl (by omega) (by decide) dX8_roomOn_31 ?_
      refine lv_iconst (v := 1) hx hb dX8_roomOn_32 (by decide) ?_
      refine lv_icmp_ne (tgt := 40) hx hb dX8_roomOn_33 (by decide) (fun c_33 => ?_) (fun c_33 => ?_)
      · refine lv_iconst (v := 0) hx hb dX8_roomOn_40 (by decide) ?_
        exact J_27 0 ((if_neg c_23).trans (if_neg c_33)).symm (eS.trans (cg1 (sX8_roomOn_j41 jb f i x_1) ((if_neg c_23).trans (if_neg c_33)))) _ _ ls hP hD hS (lv_sub hl [0, 1, 2, 3] rfl)
      · refine lv_iconst (v := 1) hx hb dX8_roomOn_36 (by decide) ?_
        refine lv_goto (tgt := 41) hx hb dX8_roomOn_37 (by decide) ?_
        exact J_27 1 ((if_neg c_23).trans (if_pos c_33)).symm (eS.trans (cg1 (sX8_roomOn_j41 jb f i x_1) ((if_neg c_23).trans (if_pos c_33)))) _ _ ls hP hD hS (lv_sub hl [0, 1, 2, 3] rfl)
  refine lv_icmp_ne (tgt := 14) hx hb dX8_roomOn_7 (by decide) (fun c_7 => ?_) (fun c_7 => ?_)
  · refine lv_iconst (v := 0) hx hb dX8_roomOn_14 (by decide) ?_
    exact J_26 0 (if_neg c_7).symm (eS.trans (cg1 (sX8_roomOn_j15 jb f i) (if_neg c_7))) _ _ ls hP hD hS (lv_sub hl [0, 1, 2] rfl)
  · refine lv_iconst (v := 1) hx hb dX8_roomOn_10 (by decide) ?_
    refine lv_goto (tgt := 15) hx hb dX8_roomOn_11 (by decide) ?_
    exact J_26 1 (if_pos c_7).symm (eS.trans (cg1 (sX8_roomOn_j15 jb f i) (if_pos c_7))) _ _ ls hP hD hS (lv_sub hl [0, 1, 2] rfl)
