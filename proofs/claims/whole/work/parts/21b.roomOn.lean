def sX8_roomOn_j356 (jb : Nat → Int32) (f : Nat → Int32) (i : Nat) (x_2 : Int32) (x_5 : Int32) (x_8 : Int32) (x_11 : Int32) (x_14 : Int32) (x_16 : Int32) (z_17 : (Nat → Int32)) (x_23 : Int32) (x_25 : Int32) (z_26 : (Nat → Int32)) (x_28 : Int32) (z_29 : (Nat → Int32)) (x_31 : Int32) (x_33 : Int32) (x_35 : Int32) : (Nat → Int32) :=
  (if (sX8_isWarm (upd (upd (upd z_29 6 ((z_29 6) + x_31)) 7 ((z_29 7) + x_33)) 8 ((z_29 8) + x_35)) i) = 0 then (upd (upd (upd (upd z_29 6 ((z_29 6) + x_31)) 7 ((z_29 7) + x_33)) 8 ((z_29 8) + x_35)) 9 ((z_29 9) + 0)) else (upd (upd (upd (upd z_29 6 ((z_29 6) + x_31)) 7 ((z_29 7) + x_33)) 8 ((z_29 8) + x_35)) 9 ((z_29 9) + 1)))
def sX8_roomOn_j333 (jb : Nat → Int32) (f : Nat → Int32) (i : Nat) (x_2 : Int32) (x_5 : Int32) (x_8 : Int32) (x_11 : Int32) (x_14 : Int32) (x_16 : Int32) (z_17 : (Nat → Int32)) (x_23 : Int32) (x_25 : Int32) (z_26 : (Nat → Int32)) (x_28 : Int32) (z_29 : (Nat → Int32)) (x_31 : Int32) (x_33 : Int32) : (Nat → Int32) :=
  (sX8_roomOn_j356 jb f i x_2 x_5 x_8 x_11 x_14 x_16 z_17 x_23 x_25 z_26 x_28 z_29 x_31 x_33 (if (jb i) = 6 then 1 else 0))
def sX8_roomOn_j311 (jb : Nat → Int32) (f : Nat → Int32) (i : Nat) (x_2 : Int32) (x_5 : Int32) (x_8 : Int32) (x_11 : Int32) (x_14 : Int32) (x_16 : Int32) (z_17 : (Nat → Int32)) (x_23 : Int32) (x_25 : Int32) (z_26 : (Nat → Int32)) (x_28 : Int32) (z_29 : (Nat → Int32)) (x_31 : Int32) : (Nat → Int32) :=
  (sX8_roomOn_j333 jb f i x_2 x_5 x_8 x_11 x_14 x_16 z_17 x_23 x_25 z_26 x_28 z_29 x_31 (if (jb i) = 4 then 1 else 0))
def sX8_roomOn_z_29 (jb : Nat → Int32) (f : Nat → Int32) (i : Nat) (x_2 : Int32) (x_5 : Int32) (x_8 : Int32) (x_11 : Int32) (x_14 : Int32) (x_16 : Int32) (z_17 : (Nat → Int32)) (x_23 : Int32) (x_25 : Int32) (z_26 : (Nat → Int32)) (x_28 : Int32) (z_29 : (Nat → Int32)) : (Nat → Int32) :=
  (sX8_roomOn_j311 jb f i x_2 x_5 x_8 x_11 x_14 x_16 z_17 x_23 x_25 z_26 x_28 z_29 (if x_8 = 0 then 0 else 1))
def sX8_roomOn_j292 (jb : Nat → Int32) (f : Nat → Int32) (i : Nat) (x_2 : Int32) (x_5 : Int32) (x_8 : Int32) (x_11 : Int32) (x_14 : Int32) (x_16 : Int32) (z_17 : (Nat → Int32)) (x_23 : Int32) (x_25 : Int32) (z_26 : (Nat → Int32)) (x_28 : Int32) : (Nat → Int32) :=
  (sX8_roomOn_z_29 jb f i x_2 x_5 x_8 x_11 x_14 x_16 z_17 x_23 x_25 z_26 x_28 (sX8_lay z_26 i 7 ((sX8_of z_26 i 7) + x_28)))
def sX8_roomOn_z_26 (jb : Nat → Int32) (f : Nat → Int32) (i : Nat) (x_2 : Int32) (x_5 : Int32) (x_8 : Int32) (x_11 : Int32) (x_14 : Int32) (x_16 : Int32) (z_17 : (Nat → Int32)) (x_23 : Int32) (x_25 : Int32) (z_26 : (Nat → Int32)) : (Nat → Int32) :=
  (sX8_roomOn_j292 jb f i x_2 x_5 x_8 x_11 x_14 x_16 z_17 x_23 x_25 z_26 (if x_5 = 0 then 0 else 1))
def sX8_roomOn_j261 (jb : Nat → Int32) (f : Nat → Int32) (i : Nat) (x_2 : Int32) (x_5 : Int32) (x_8 : Int32) (x_11 : Int32) (x_14 : Int32) (x_16 : Int32) (z_17 : (Nat → Int32)) (x_23 : Int32) (x_25 : Int32) : (Nat → Int32) :=
  (sX8_roomOn_z_26 jb f i x_2 x_5 x_8 x_11 x_14 x_16 z_17 x_23 x_25 (sX8_lay z_17 i 5 (sX8_clamp (((sX8_of z_17 i 5) + x_23) + x_25) 0 100)))
def sX8_roomOn_j251 (jb : Nat → Int32) (f : Nat → Int32) (i : Nat) (x_2 : Int32) (x_5 : Int32) (x_8 : Int32) (x_11 : Int32) (x_14 : Int32) (x_16 : Int32) (z_17 : (Nat → Int32)) (x_23 : Int32) : (Nat → Int32) :=
  (sX8_roomOn_j261 jb f i x_2 x_5 x_8 x_11 x_14 x_16 z_17 x_23 (if x_2 = 0 then 0 else 2))
def sX8_roomOn_j356' (jb : Nat → Int32) (f : Nat → Int32) (i : Nat) (x_2 : Int32) (x_5 : Int32) (x_8 : Int32) (x_11 : Int32) (x_14 : Int32) (x_16 : Int32) (z_17 : (Nat → Int32)) (x_38 : Int32) (z_39 : (Nat → Int32)) (x_41 : Int32) (z_42 : (Nat → Int32)) (x_44 : Int32) (z_45 : (Nat → Int32)) (x_47 : Int32) (x_49 : Int32) (x_51 : Int32) : (Nat → Int32) :=
  (if (sX8_isWarm (upd (upd (upd z_45 6 ((z_45 6) + x_47)) 7 ((z_45 7) + x_49)) 8 ((z_45 8) + x_51)) i) = 0 then (upd (upd (upd (upd z_45 6 ((z_45 6) + x_47)) 7 ((z_45 7) + x_49)) 8 ((z_45 8) + x_51)) 9 ((z_45 9) + 0)) else (upd (upd (upd (upd z_45 6 ((z_45 6) + x_47)) 7 ((z_45 7) + x_49)) 8 ((z_45 8) + x_51)) 9 ((z_45 9) + 1)))
def sX8_roomOn_j333' (jb : Nat → Int32) (f : Nat → Int32) (i : Nat) (x_2 : Int32) (x_5 : Int32) (x_8 : Int32) (x_11 : Int32) (x_14 : Int32) (x_16 : Int32) (z_17 : (Nat → Int32)) (x_38 : Int32) (z_39 : (Nat → Int32)) (x_41 : Int32) (z_42 : (Nat → Int32)) (x_44 : Int32) (z_45 : (Nat → Int32)) (x_47 : Int32) (x_49 : Int32) : (Nat → Int32) :=
  (sX8_roomOn_j356' jb f i x_2 x_5 x_8 x_11 x_14 x_16 z_17 x_38 z_39 x_41 z_42 x_44 z_45 x_47 x_49 (if (jb i) = 6 then 1 else 0))
def sX8_roomOn_j311' (jb : Nat → Int32) (f : Nat → Int32) (i : Nat) (x_2 : Int32) (x_5 : Int32) (x_8 : Int32) (x_11 : Int32) (x_14 : Int32) (x_16 : Int32) (z_17 : (Nat → Int32)) (x_38 : Int32) (z_39 : (Nat → Int32)) (x_41 : Int32) (z_42 : (Nat → Int32)) (x_44 : Int32) (z_45 : (Nat → Int32)) (x_47 : Int32) : (Nat → Int32) :=
  (sX8_roomOn_j333' jb f i x_2 x_5 x_8 x_11 x_14 x_16 z_17 x_38 z_39 x_41 z_42 x_44 z_45 x_47 (if (jb i) = 4 then 1 else 0))
def sX8_roomOn_z_45 (jb : Nat → Int32) (f : Nat → Int32) (i : Nat) (x_2 : Int32) (x_5 : Int32) (x_8 : Int32) (x_11 : Int32) (x_14 : Int32) (x_16 : Int32) (z_17 : (Nat → Int32)) (x_38 : Int32) (z_39 : (Nat → Int32)) (x_41 : Int32) (z_42 : (Nat → Int32)) (x_44 : Int32) (z_45 : (Nat → Int32)) : (Nat → Int32) :=
  (sX8_roomOn_j311' jb f i x_2 x_5 x_8 x_11 x_14 x_16 z_17 x_38 z_39 x_41 z_42 x_44 z_45 (if x_8 = 0 then 0 else 1))
def sX8_roomOn_j292' (jb : Nat → Int32) (f : Nat → Int32) (i : Nat) (x_2 : Int32) (x_5 : Int32) (x_8 : Int32) (x_11 : Int32) (x_14 : Int32) (x_16 : Int32) (z_17 : (Nat → Int32)) (x_38 : Int32) (z_39 : (Nat → Int32)) (x_41 : Int32) (z_42 : (Nat → Int32)) (x_44 : Int32) : (Nat → Int32) :=
  (sX8_roomOn_z_45 jb f i x_2 x_5 x_8 x_11 x_14 x_16 z_17 x_38 z_39 x_41 z_42 x_44 (sX8_lay z_42 i 7 ((sX8_of z_42 i 7) + x_44)))
def sX8_roomOn_z_42 (jb : Nat → Int32) (f : Nat → Int32) (i : Nat) (x_2 : Int32) (x_5 : Int32) (x_8 : Int32) (x_11 : Int32) (x_14 : Int32) (x_16 : Int32) (z_17 : (Nat → Int32)) (x_38 : Int32) (z_39 : (Nat → Int32)) (x_41 : Int32) (z_42 : (Nat → Int32)) : (Nat → Int32) :=
  (sX8_roomOn_j292' jb f i x_2 x_5 x_8 x_11 x_14 x_16 z_17 x_38 z_39 x_41 z_42 (if x_5 = 0 then 0 else 1))
def sX8_roomOn_j226 (jb : Nat → Int32) (f : Nat → Int32) (i : Nat) (x_2 : Int32) (x_5 : Int32) (x_8 : Int32) (x_11 : Int32) (x_14 : Int32) (x_16 : Int32) (z_17 : (Nat → Int32)) (x_38 : Int32) (z_39 : (Nat → Int32)) (x_41 : Int32) : (Nat → Int32) :=
  (sX8_roomOn_z_42 jb f i x_2 x_5 x_8 x_11 x_14 x_16 z_17 x_38 z_39 x_41 (sX8_lay z_39 i 6 x_41))
def sX8_roomOn_z_39 (jb : Nat → Int32) (f : Nat → Int32) (i : Nat) (x_2 : Int32) (x_5 : Int32) (x_8 : Int32) (x_11 : Int32) (x_14 : Int32) (x_16 : Int32) (z_17 : (Nat → Int32)) (x_38 : Int32) (z_39 : (Nat → Int32)) : (Nat → Int32) :=
  (sX8_roomOn_j226 jb f i x_2 x_5 x_8 x_11 x_14 x_16 z_17 x_38 z_39 (if (sX8_of z_39 i 5) = 0 then 0 else (x_38 - 1)))
def sX8_roomOn_j182 (jb : Nat → Int32) (f : Nat → Int32) (i : Nat) (x_2 : Int32) (x_5 : Int32) (x_8 : Int32) (x_11 : Int32) (x_14 : Int32) (x_16 : Int32) (z_17 : (Nat → Int32)) (x_38 : Int32) : (Nat → Int32) :=
  (sX8_roomOn_z_39 jb f i x_2 x_5 x_8 x_11 x_14 x_16 z_17 x_38 (sX8_lay z_17 i 5 (sX8_clamp ((sX8_of z_17 i 5) - 10) 0 100)))
def sX8_roomOn_z_17 (jb : Nat → Int32) (f : Nat → Int32) (i : Nat) (x_2 : Int32) (x_5 : Int32) (x_8 : Int32) (x_11 : Int32) (x_14 : Int32) (x_16 : Int32) (z_17 : (Nat → Int32)) : (Nat → Int32) :=
  (if x_11 = 0 then (sX8_roomOn_j251 jb f i x_2 x_5 x_8 x_11 x_14 x_16 z_17 (if x_5 = 0 then 0 else 1)) else (sX8_roomOn_j182 jb f i x_2 x_5 x_8 x_11 x_14 x_16 z_17 (if x_8 = 0 then (sX8_of z_17 i 6) else (z_17 15))))
def sX8_roomOn_j145 (jb : Nat → Int32) (f : Nat → Int32) (i : Nat) (x_2 : Int32) (x_5 : Int32) (x_8 : Int32) (x_11 : Int32) (x_14 : Int32) (x_16 : Int32) : (Nat → Int32) :=
  (sX8_roomOn_z_17 jb f i x_2 x_5 x_8 x_11 x_14 x_16 (sX8_lay f i 3 (sX8_clamp (((sX8_of f i 3) + x_14) + x_16) (-400) 400)))
def sX8_roomOn_j122 (jb : Nat → Int32) (f : Nat → Int32) (i : Nat) (x_2 : Int32) (x_5 : Int32) (x_8 : Int32) (x_11 : Int32) (x_14 : Int32) : (Nat → Int32) :=
  (sX8_roomOn_j145 jb f i x_2 x_5 x_8 x_11 x_14 (if x_2 = 0 then 0 else 4))
def sX8_roomOn_j89 (jb : Nat → Int32) (f : Nat → Int32) (i : Nat) (x_2 : Int32) (x_5 : Int32) (x_8 : Int32) (x_11 : Int32) : (Nat → Int32) :=
  (sX8_roomOn_j122 jb f i x_2 x_5 x_8 x_11 (if x_5 = 0 then (if x_11 = 0 then 1 else 6) else (((sX8_of f i 5) / 20) - 8)))
def sX8_roomOn_j68 (jb : Nat → Int32) (f : Nat → Int32) (i : Nat) (x_2 : Int32) (x_5 : Int32) (x_8 : Int32) : (Nat → Int32) :=
  (sX8_roomOn_j89 jb f i x_2 x_5 x_8 (if x_8 = 0 then (if (jb i) = 0 then 1 else 0) else 1))
def sX8_roomOn_j41 (jb : Nat → Int32) (f : Nat → Int32) (i : Nat) (x_2 : Int32) (x_5 : Int32) : (Nat → Int32) :=
  (sX8_roomOn_j68 jb f i x_2 x_5 (if (jb i) = 5 then 1 else (if (jb i) = 2 then 1 else 0)))
def sX8_roomOn_j15 (jb : Nat → Int32) (f : Nat → Int32) (i : Nat) (x_2 : Int32) : (Nat → Int32) :=
  (sX8_roomOn_j41 jb f i x_2 (if (jb i) = 3 then 1 else (if (jb i) = 1 then 1 else 0)))
def sX8_roomOn (jb : Nat → Int32) (f : Nat → Int32) (i : Nat) : (Nat → Int32) :=
  (sX8_roomOn_j15 jb f i (if (sX8_of f i 4) = 1 then 1 else 0))
set_option maxRecDepth 100000 in
set_option maxHeartbeats 4000000 in
theorem c_X8_roomOn (l : Launch) (G : va_G) (kk : Nat → ClassId) (h : Nat) (b : Nat → Nat) (q : Nat → Int32) (jb : Nat → Int32) (ra : Nat) (f : Nat → Int32) (i : Nat) (hi : i < 6) : CC l yX8_roomOn cX8_roomOn 9 none (rmO 2 43) [.ref h, .ref ra, .int (nI i)] G kk ([(h, .inr (8, moF b q)), ((b 7), .inl (kk 0, 6, .inl jb)), (ra, .inl (kk 0, 64, .inl f))]) (QV G kk ([(h, .inr (8, moF b q)), ((b 7), .inl (kk 0, 6, .inl jb)), (ra, .inl (kk 0, 64, .inl (sX8_roomOn jb f i)))])) := by
  refine cc_start (by decide +kernel) (Nat.le_of_ble_eq_true rfl) ?_
  intro p e s m below meth c A ls hx hb hr hml hown hts hlocks hA hE hK hP hD hS hl
  have hown : s.vm.findClass RX8 = some m.cls := hown
  have hl : lv_has ls 9 [(0, .ref h), (1, .ref ra), (2, .int (nI i))] := hl
  have eS : sX8_roomOn jb f i = sX8_roomOn jb f i := rfl
  refine lv_aload_n hx hb dX8_roomOn_0 rfl (lv_at hl 1 rfl) ?_
  refine lv_iload_n hx hb dX8_roomOn_1 rfl (lv_at hl 2 rfl) ?_
  refine lv_iconst (v := 4) hx hb dX8_roomOn_2 (by decide) ?_
  refine k_goI (k_runS (rest := []) (As := [.ref ra, .int (nI i), .int 4]) hx hb hml hown hts hK hP hD hS hA hE hl.1 (c_X8_of l G kk ra f i 4 (by omega)) sl_X8_44 ⟨Nat.le_of_ble_eq_true rfl, Nat.le_of_ble_eq_true rfl, rfl, rfl⟩ [2] rfl rfl ⟨Nat.zero_le _, Nat.zero_le _⟩ rfl (Nat.le_of_ble_eq_true rfl) dX8_roomOn_3) hP hD hS hA [2] rfl ads1 (fun H locs hP hD hS => ?_)
  replace hP : va_P G vwCl ([(h, .inr (8, moF b q)), ((b 7), .inl (kk 0, 6, .inl jb)), (ra, .inl (kk 0, 64, .inl f))]) H := hP
  replace hD : va_D A ([(h, .inr (8, moF b q)), ((b 7), .inl (kk 0, 6, .inl jb)), (ra, .inl (kk 0, 64, .inl f))]) := hD
  refine lv_iconst (v := 1) hx hb dX8_roomOn_6 (by decide) ?_
  have J_53 : ∀ (x_2 : Int32) (ex_2 : x_2 = (if (sX8_of f i 4) = 1 then 1 else 0)) (eS : sX8_roomOn jb f i = sX8_roomOn_j15 jb f i x_2) (H : Heap) (locs : List Loc) (ls : Array Slot) (hP : va_P G vwCl ([(h, .inr (8, moF b q)), ((b 7), .inl (kk 0, 6, .inl jb)), (ra, .inl (kk 0, 64, .inl f))]) H) (hD : va_D A ([(h, .inr (8, moF b q)), ((b 7), .inl (kk 0, 6, .inl jb)), (ra, .inl (kk 0, 64, .inl f))])) (hS : va_S A s.heap H locs) (hl : lv_has ls 9 [(0, .ref h), (1, .ref ra), (2, .int (nI i))]), GO p l e (rmO 2 43) s m ([.ref h, .ref ra, .int (nI i)] : List Value).toArray below meth c A (QV G kk ([(h, .inr (8, moF b q)), ((b 7), .inl (kk 0, 6, .inl jb)), (ra, .inl (kk 0, 64, .inl (sX8_roomOn jb f i)))])) H locs (F0 m 15 ls [.int x_2]) := by
    intro x_2 ex_2 eS H locs ls hP hD hS hl
    refine lv_istore_n (lv' := [(3, .int x_2), (0, .ref h), (1, .ref ra), (2, .int (nI i))]) hx hb dX8_roomOn_15 rfl hl (by decide) rfl (fun ls hl => ?_)
    refine lv_aload_n hx hb dX8_roomOn_16 rfl (lv_at hl 1 rfl) ?_
    refine r_get (v := .ref (b 7)) hx hb hts hown hK hP fl_X8_29 0 rfl rfl dX8_roomOn_17 ?_
    refine lv_iload_n hx hb dX8_roomOn_20 rfl (lv_at hl 3 rfl) ?_
    refine r_iald hx hb hK hP 1 rfl i rfl (by omega) (by decide) dX8_roomOn_21 ?_
    refine lv_iconst (v := 3) hx hb dX8_roomOn_22 (by decide) ?_
    have J_54 : ∀ (x_5 : Int32) (ex_5 : x_5 = (if (jb i) = 3 then 1 else (if (jb i) = 1 then 1 else 0))) (eS : sX8_roomOn jb f i = sX8_roomOn_j41 jb f i x_2 x_5) (H : Heap) (locs : List Loc) (ls : Array Slot) (hP : va_P G vwCl ([(h, .inr (8, moF b q)), ((b 7), .inl (kk 0, 6, .inl jb)), (ra, .inl (kk 0, 64, .inl f))]) H) (hD : va_D A ([(h, .inr (8, moF b q)), ((b 7), .inl (kk 0, 6, .inl jb)), (ra, .inl (kk 0, 64, .inl f))])) (hS : va_S A s.heap H locs) (hl : lv_has ls 9 [(3, .int x_2), (0, .ref h), (1, .ref ra), (2, .int (nI i))]), GO p l e (rmO 2 43) s m ([.ref h, .ref ra, .int (nI i)] : List Value).toArray below meth c A (QV G kk ([(h, .inr (8, moF b q)), ((b 7), .inl (kk 0, 6, .inl jb)), (ra, .inl (kk 0, 64, .inl (sX8_roomOn jb f i)))])) H locs (F0 m 41 ls [.int x_5]) := by
      intro x_5 ex_5 eS H locs ls hP hD hS hl
      refine lv_istore (lv' := [(4, .int x_5), (3, .int x_2), (0, .ref h), (1, .ref ra), (2, .int (nI i))]) hx hb dX8_roomOn_41 hl (by decide) rfl (fun ls hl => ?_)
      refine lv_aload_n hx hb dX8_roomOn_43 rfl (lv_at hl 2 rfl) ?_
      refine r_get (v := .ref (b 7)) hx hb hts hown hK hP fl_X8_29 0 rfl rfl dX8_roomOn_44 ?_
      refine lv_iload_n hx hb dX8_roomOn_47 rfl (lv_at hl 4 rfl) ?_
      refine r_iald hx hb hK hP 1 rfl i rfl (by omega) (by decide) dX8_roomOn_48 ?_
      refine lv_iconst (v := 5) hx hb dX8_roomOn_49 (by decide) ?_
      have J_55 : ∀ (x_8 : Int32) (ex_8 : x_8 = (if (jb i) = 5 then 1 else (if (jb i) = 2 then 1 else 0))) (eS : sX8_roomOn jb f i = sX8_roomOn_j68 jb f i x_2 x_5 x_8) (H : Heap) (locs : List Loc) (ls : Array Slot) (hP : va_P G vwCl ([(h, .inr (8, moF b q)), ((b 7), .inl (kk 0, 6, .inl jb)), (ra, .inl (kk 0, 64, .inl f))]) H) (hD : va_D A ([(h, .inr (8, moF b q)), ((b 7), .inl (kk 0, 6, .inl jb)), (ra, .inl (kk 0, 64, .inl f))])) (hS : va_S A s.heap H locs) (hl : lv_has ls 9 [(4, .int x_5), (3, .int x_2), (0, .ref h), (1, .ref ra), (2, .int (nI i))]), GO p l e (rmO 2 43) s m ([.ref h, .ref ra, .int (nI i)] : List Value).toArray below meth c A (QV G kk ([(h, .inr (8, moF b q)), ((b 7), .inl (kk 0, 6, .inl jb)), (ra, .inl (kk 0, 64, .inl (sX8_roomOn jb f i)))])) H locs (F0 m 68 ls [.int x_8]) := by
        intro x_8 ex_8 eS H locs ls hP hD hS hl
        refine lv_istore (lv' := [(5, .int x_8), (4, .int x_5), (3, .int x_2), (0, .ref h), (1, .ref ra), (2, .int (nI i))]) hx hb dX8_roomOn_68 hl (by decide) rfl (fun ls hl => ?_)
        refine lv_iload hx hb dX8_roomOn_70 (lv_at hl 0 rfl) ?_
        have J_56 : ∀ (x_11 : Int32) (ex_11 : x_11 = (if x_8 = 0 then (if (jb i) = 0 then 1 else 0) else 1)) (eS : sX8_roomOn jb f i = sX8_roomOn_j89 jb f i x_2 x_5 x_8 x_11) (H : Heap) (locs : List Loc) (ls : Array Slot) (hP : va_P G vwCl ([(h, .inr (8, moF b q)), ((b 7), .inl (kk 0, 6, .inl jb)), (ra, .inl (kk 0, 64, .inl f))]) H) (hD : va_D A ([(h, .inr (8, moF b q)), ((b 7), .inl (kk 0, 6, .inl jb)), (ra, .inl (kk 0, 64, .inl f))])) (hS : va_S A s.heap H locs) (hl : lv_has ls 9 [(5, .int x_8), (4, .int x_5), (3, .int x_2), (0, .ref h), (1, .ref ra), (2, .int (nI i))]), GO p l e (rmO 2 43) s m ([.ref h, .ref ra, .int (nI i)] : List Value).toArray below meth c A (QV G kk ([(h, .inr (8, moF b q)), ((b 7), .inl (kk 0, 6, .inl jb)), (ra, .inl (kk 0, 64, .inl (sX8_roomOn jb f i)))])) H locs (F0 m 89 ls [.int x_11]) := by
          intro x_11 ex_11 eS H locs ls hP hD hS hl
          refine lv_istore (lv' := [(6, .int x_11), (5, .int x_8), (4, .int x_5), (3, .int x_2), (0, .ref h), (1, .ref ra), (2, .int (nI i))]) hx hb dX8_roomOn_89 hl (by decide) rfl (fun ls hl => ?_)
          refine lv_iload hx hb dX8_roomOn_91 (lv_at hl 2 rfl) ?_
          have J_57 : ∀ (x_14 : Int32) (ex_14 : x_14 = (if x_5 = 0 then (if x_11 = 0 then 1 else 6) else (((sX8_of f i 5) / 20) - 8))) (eS : sX8_roomOn jb f i = sX8_roomOn_j122 jb f i x_2 x_5 x_8 x_11 x_14) (H : Heap) (locs : List Loc) (ls : Array Slot) (hP : va_P G vwCl ([(h, .inr (8, moF b q)), ((b 7), .inl (kk 0, 6, .inl jb)), (ra, .inl (kk 0, 64, .inl f))]) H) (hD : va_D A ([(h, .inr (8, moF b q)), ((b 7), .inl (kk 0, 6, .inl jb)), (ra, .inl (kk 0, 64, .inl f))])) (hS : va_S A s.heap H locs) (hl : lv_has ls 9 [(6, .int x_11), (5, .int x_8), (4, .int x_5), (3, .int x_2), (0, .ref h), (1, .ref ra), (2, .int (nI i))]), GO p l e (rmO 2 43) s m ([.ref h, .ref ra, .int (nI i)] : List Value).toArray below meth c A (QV G kk ([(h, .inr (8, moF b q)), ((b 7), .inl (kk 0, 6, .inl jb)), (ra, .inl (kk 0, 64, .inl (sX8_roomOn jb f i)))])) H locs (F0 m 122 ls [.int x_14]) := by
            intro x_14 ex_14 eS H locs ls hP hD hS hl
            refine lv_istore (lv' := [(7, .int x_14), (6, .int x_11), (5, .int x_8), (4, .int x_5), (3, .int x_2), (0, .ref h), (1, .ref ra), (2, .int (nI i))]) hx hb dX8_roomOn_122 hl (by decide) rfl (fun ls hl => ?_)
            refine lv_aload_n hx hb dX8_roomOn_124 rfl (lv_at hl 6 rfl) ?_
            refine lv_iload_n hx hb dX8_roomOn_125 rfl (lv_at hl 7 rfl) ?_
            refine lv_iconst (v := 3) hx hb dX8_roomOn_126 (by decide) ?_
            refine lv_aload_n hx hb dX8_roomOn_127 rfl (lv_at hl 6 rfl) ?_
            refine lv_iload_n hx hb dX8_roomOn_128 rfl (lv_at hl 7 rfl) ?_
            refine lv_iconst (v := 3) hx hb dX8_roomOn_129 (by decide) ?_
            refine k_goI (k_runS (rest := [.int 3, .int (nI i), .ref ra]) (As := [.ref ra, .int (nI i), .int 3]) hx hb hml hown hts hK hP hD hS hA hE hl.1 (c_X8_of l G kk ra f i 3 (by omega)) sl_X8_44 ⟨Nat.le_of_ble_eq_true rfl, Nat.le_of_ble_eq_true rfl, rfl, rfl⟩ [2] rfl rfl ⟨Nat.zero_le _, Nat.zero_le _⟩ rfl (Nat.le_of_ble_eq_true rfl) dX8_roomOn_130) hP hD hS hA [2] rfl ads1 (fun H locs hP hD hS => ?_)
            replace hP : va_P G vwCl ([(h, .inr (8, moF b q)), ((b 7), .inl (kk 0, 6, .inl jb)), (ra, .inl (kk 0, 64, .inl f))]) H := hP
            replace hD : va_D A ([(h, .inr (8, moF b q)), ((b 7), .inl (kk 0, 6, .inl jb)), (ra, .inl (kk 0, 64, .inl f))]) := hD
            refine lv_iload hx hb dX8_roomOn_133 (lv_at hl 0 rfl) ?_
            refine lv_iadd hx hb dX8_roomOn_135 ?_
            refine lv_iload_n hx hb dX8_roomOn_136 rfl (lv_at hl 4 rfl) ?_
            have J_58 : ∀ (x_16 : Int32) (ex_16 : x_16 = (if x_2 = 0 then 0 else 4)) (eS : sX8_roomOn jb f i = sX8_roomOn_j145 jb f i x_2 x_5 x_8 x_11 x_14 x_16) (H : Heap) (locs : List Loc) (ls : Array Slot) (hP : va_P G vwCl ([(h, .inr (8, moF b q)), ((b 7), .inl (kk 0, 6, .inl jb)), (ra, .inl (kk 0, 64, .inl f))]) H) (hD : va_D A ([(h, .inr (8, moF b q)), ((b 7), .inl (kk 0, 6, .inl jb)), (ra, .inl (kk 0, 64, .inl f))])) (hS : va_S A s.heap H locs) (hl : lv_has ls 9 [(7, .int x_14), (6, .int x_11), (5, .int x_8), (4, .int x_5), (3, .int x_2), (0, .ref h), (1, .ref ra), (2, .int (nI i))]), GO p l e (rmO 2 43) s m ([.ref h, .ref ra, .int (nI i)] : List Value).toArray below meth c A (QV G kk ([(h, .inr (8, moF b q)), ((b 7), .inl (kk 0, 6, .inl jb)), (ra, .inl (kk 0, 64, .inl (sX8_roomOn jb f i)))])) H locs (F0 m 145 ls [.int x_16, .int ((sX8_of f i 3) + x_14), .int 3, .int (nI i), .ref ra]) := by
              intro x_16 ex_16 eS H locs ls hP hD hS hl
              refine lv_iadd hx hb dX8_roomOn_145 ?_
              refine lv_sipush (v := (-400)) hx hb dX8_roomOn_146 (by decide) ?_
              refine lv_sipush (v := 400) hx hb dX8_roomOn_149 (by decide) ?_
              refine k_goI (k_runS (rest := [.int 3, .int (nI i), .ref ra]) (As := [.int (((sX8_of f i 3) + x_14) + x_16), .int (-400), .int 400]) hx hb hml hown hts hK hP hD hS hA hE hl.1 (c_X8_clamp l G kk (((sX8_of f i 3) + x_14) + x_16) (-400) 400 ) sl_X8_75 ⟨Nat.le_of_ble_eq_true rfl, Nat.le_of_ble_eq_true rfl, rfl, rfl⟩ [] rfl rfl ⟨Nat.zero_le _, Nat.zero_le _⟩ rfl (Nat.le_of_ble_eq_true rfl) dX8_roomOn_152) hP hD hS hA [] rfl ads0 (fun H locs hP hD hS => ?_)
              replace hP : va_P G vwCl ([(h, .inr (8, moF b q)), ((b 7), .inl (kk 0, 6, .inl jb)), (ra, .inl (kk 0, 64, .inl f))]) H := hP
              replace hD : va_D A ([(h, .inr (8, moF b q)), ((b 7), .inl (kk 0, 6, .inl jb)), (ra, .inl (kk 0, 64, .inl f))]) := hD
              refine k_goV (k_runS (rest := []) (As := [.ref ra, .int (nI i), .int 3, .int (sX8_clamp (((sX8_of f i 3) + x_14) + x_16) (-400) 400)]) hx hb hml hown hts hK hP hD hS hA hE hl.1 (c_X8_lay l G kk ra f i 3 (sX8_clamp (((sX8_of f i 3) + x_14) + x_16) (-400) 400) (by omega)) sl_X8_79 ⟨Nat.le_of_ble_eq_true rfl, Nat.le_of_ble_eq_true rfl, rfl, rfl⟩ [2] rfl rfl ⟨Nat.zero_le _, Nat.zero_le _⟩ rfl (Nat.le_of_ble_eq_true rfl) dX8_roomOn_155) hP hD hS hA [2] rfl ads1 (fun H locs hP hD hS => ?_)
              replace hP : va_P G vwCl ([(h, .inr (8, moF b q)), ((b 7), .inl (kk 0, 6, .inl jb)), (ra, .inl (kk 0, 64, .inl (sX8_lay f i 3 (sX8_clamp (((sX8_of f i 3) + x_14) + x_16) (-400) 400))))]) H := hP
              replace hD : va_D A ([(h, .inr (8, moF b q)), ((b 7), .inl (kk 0, 6, .inl jb)), (ra, .inl (kk 0, 64, .inl (sX8_lay f i 3 (sX8_clamp (((sX8_of f i 3) + x_14) + x_16) (-400) 400))))]) := hD
              have eS : sX8_roomOn jb f i = sX8_roomOn_z_17 jb f i x_2 x_5 x_8 x_11 x_14 x_16 (sX8_lay f i 3 (sX8_clamp (((sX8_of f i 3) + x_14) + x_16) (-400) 400)) := eS
              generalize sX8_lay f i 3 (sX8_clamp (((sX8_of f i 3) + x_14) + x_16) (-400) 400) = z_17 at hP hD eS ⊢
              refine lv_iload hx hb dX8_roomOn_158 (lv_at hl 1 rfl) ?_
              refine lv_if_eq (tgt := 232) hx hb dX8_roomOn_160 (by decide) (fun c_18 => ?_) (fun c_18 => ?_)
              · have eS := eS.trans (if_pos c_18)
                refine lv_aload_n hx hb dX8_roomOn_232 rfl (lv_at hl 6 rfl) ?_
                refine lv_iload_n hx hb dX8_roomOn_233 rfl (lv_at hl 7 rfl) ?_
                refine lv_iconst (v := 5) hx hb dX8_roomOn_234 (by decide) ?_
                refine lv_aload_n hx hb dX8_roomOn_235 rfl (lv_at hl 6 rfl) ?_
                refine lv_iload_n hx hb dX8_roomOn_236 rfl (lv_at hl 7 rfl) ?_
                refine lv_iconst (v := 5) hx hb dX8_roomOn_237 (by decide) ?_
                refine k_goI (k_runS (rest := [.int 5, .int (nI i), .ref ra]) (As := [.ref ra, .int (nI i), .int 5]) hx hb hml hown hts hK hP hD hS hA hE hl.1 (c_X8_of l G kk ra z_17 i 5 (by omega)) sl_X8_44 ⟨Nat.le_of_ble_eq_true rfl, Nat.le_of_ble_eq_true rfl, rfl, rfl⟩ [2] rfl rfl ⟨Nat.zero_le _, Nat.zero_le _⟩ rfl (Nat.le_of_ble_eq_true rfl) dX8_roomOn_238) hP hD hS hA [2] rfl ads1 (fun H locs hP hD hS => ?_)
                replace hP : va_P G vwCl ([(h, .inr (8, moF b q)), ((b 7), .inl (kk 0, 6, .inl jb)), (ra, .inl (kk 0, 64, .inl z_17))]) H := hP
                replace hD : va_D A ([(h, .inr (8, moF b q)), ((b 7), .inl (kk 0, 6, .inl jb)), (ra, .inl (kk 0, 64, .inl z_17))]) := hD
                refine lv_iload hx hb dX8_roomOn_241 (lv_at hl 3 rfl) ?_
                have J_59 : ∀ (x_23 : Int32) (ex_23 : x_23 = (if x_5 = 0 then 0 else 1)) (eS : sX8_roomOn jb f i = sX8_roomOn_j251 jb f i x_2 x_5 x_8 x_11 x_14 x_16 z_17 x_23) (H : Heap) (locs : List Loc) (ls : Array Slot) (hP : va_P G vwCl ([(h, .inr (8, moF b q)), ((b 7), .inl (kk 0, 6, .inl jb)), (ra, .inl (kk 0, 64, .inl z_17))]) H) (hD : va_D A ([(h, .inr (8, moF b q)), ((b 7), .inl (kk 0, 6, .inl jb)), (ra, .inl (kk 0, 64, .inl z_17))])) (hS : va_S A s.heap H locs) (hl : lv_has ls 9 [(7, .int x_14), (6, .int x_11), (5, .int x_8), (4, .int x_5), (3, .int x_2), (0, .ref h), (1, .ref ra), (2, .int (nI i))]), GO p l e (rmO 2 43) s m ([.ref h, .ref ra, .int (nI i)] : List Value).toArray below meth c A (QV G kk ([(h, .inr (8, moF b q)), ((b 7), .inl (kk 0, 6, .inl jb)), (ra, .inl (kk 0, 64, .inl (sX8_roomOn jb f i)))])) H locs (F0 m 251 ls [.int x_23, .int (sX8_of z_17 i 5), .int 5, .int (nI i), .ref ra]) := by
                  intro x_23 ex_23 eS H locs ls hP hD hS hl
                  refine lv_iadd hx hb dX8_roomOn_251 ?_
                  refine lv_iload_n hx hb dX8_roomOn_252 rfl (lv_at hl 4 rfl) ?_
                  have J_60 : ∀ (x_25 : Int32) (ex_25 : x_25 = (if x_2 = 0 then 0 else 2)) (eS : sX8_roomOn jb f i = sX8_roomOn_j261 jb f i x_2 x_5 x_8 x_11 x_14 x_16 z_17 x_23 x_25) (H : Heap) (locs : List Loc) (ls : Array Slot) (hP : va_P G vwCl ([(h, .inr (8, moF b q)), ((b 7), .inl (kk 0, 6, .inl jb)), (ra, .inl (kk 0, 64, .inl z_17))]) H) (hD : va_D A ([(h, .inr (8, moF b q)), ((b 7), .inl (kk 0, 6, .inl jb)), (ra, .inl (kk 0, 64, .inl z_17))])) (hS : va_S A s.heap H locs) (hl : lv_has ls 9 [(7, .int x_14), (6, .int x_11), (5, .int x_8), (4, .int x_5), (3, .int x_2), (0, .ref h), (1, .ref ra), (2, .int (nI i))]), GO p l e (rmO 2 43) s m ([.ref h, .ref ra, .int (nI i)] : List Value).toArray below meth c A (QV G kk ([(h, .inr (8, moF b q)), ((b 7), .inl (kk 0, 6, .inl jb)), (ra, .inl (kk 0, 64, .inl (sX8_roomOn jb f i)))])) H locs (F0 m 261 ls [.int x_25, .int ((sX8_of z_17 i 5) + x_23), .int 5, .int (nI i), .ref ra]) := by
                    intro x_25 ex_25 eS H locs ls hP hD hS hl
                    refine lv_iadd hx hb dX8_roomOn_261 ?_
                    refine lv_iconst (v := 0) hx hb dX8_roomOn_262 (by decide) ?_
                    refine lv_bipush (v := 100) hx hb dX8_roomOn_263 (by decide) ?_
                    refine k_goI (k_runS (rest := [.int 5, .int (nI i), .ref ra]) (As := [.int (((sX8_of z_17 i 5) + x_23) + x_25), .int 0, .int 100]) hx hb hml hown hts hK hP hD hS hA hE hl.1 (c_X8_clamp l G kk (((sX8_of z_17 i 5) + x_23) + x_25) 0 100 ) sl_X8_75 ⟨Nat.le_of_ble_eq_true rfl, Nat.le_of_ble_eq_true rfl, rfl, rfl⟩ [] rfl rfl ⟨Nat.zero_le _, Nat.zero_le _⟩ rfl (Nat.le_of_ble_eq_true rfl) dX8_roomOn_265) hP hD hS hA [] rfl ads0 (fun H locs hP hD hS => ?_)
                    replace hP : va_P G vwCl ([(h, .inr (8, moF b q)), ((b 7), .inl (kk 0, 6, .inl jb)), (ra, .inl (kk 0, 64, .inl z_17))]) H := hP
                    replace hD : va_D A ([(h, .inr (8, moF b q)), ((b 7), .inl (kk 0, 6, .inl jb)), (ra, .inl (kk 0, 64, .inl z_17))]) := hD
                    refine k_goV (k_runS (rest := []) (As := [.ref ra, .int (nI i), .int 5, .int (sX8_clamp (((sX8_of z_17 i 5) + x_23) + x_25) 0 100)]) hx hb hml hown hts hK hP hD hS hA hE hl.1 (c_X8_lay l G kk ra z_17 i 5 (sX8_clamp (((sX8_of z_17 i 5) + x_23) + x_25) 0 100) (by omega)) sl_X8_79 ⟨Nat.le_of_ble_eq_true rfl, Nat.le_of_ble_eq_true rfl, rfl, rfl⟩ [2] rfl rfl ⟨Nat.zero_le _, Nat.zero_le _⟩ rfl (Nat.le_of_ble_eq_true rfl) dX8_roomOn_268) hP hD hS hA [2] rfl ads1 (fun H locs hP hD hS => ?_)
                    replace hP : va_P G vwCl ([(h, .inr (8, moF b q)), ((b 7), .inl (kk 0, 6, .inl jb)), (ra, .inl (kk 0, 64, .inl (sX8_lay z_17 i 5 (sX8_clamp (((sX8_of z_17 i 5) + x_23) + x_25) 0 100))))]) H := hP
                    replace hD : va_D A ([(h, .inr (8, moF b q)), ((b 7), .inl (kk 0, 6, .inl jb)), (ra, .inl (kk 0, 64, .inl (sX8_lay z_17 i 5 (sX8_clamp (((sX8_of z_17 i 5) + x_23) + x_25) 0 100))))]) := hD
                    have eS : sX8_roomOn jb f i = sX8_roomOn_z_26 jb f i x_2 x_5 x_8 x_11 x_14 x_16 z_17 x_23 x_25 (sX8_lay z_17 i 5 (sX8_clamp (((sX8_of z_17 i 5) + x_23) + x_25) 0 100)) := eS
                    generalize sX8_lay z_17 i 5 (sX8_clamp (((sX8_of z_17 i 5) + x_23) + x_25) 0 100) = z_26 at hP hD eS ⊢
                    refine lv_aload_n hx hb dX8_roomOn_271 rfl (lv_at hl 6 rfl) ?_
                    refine lv_iload_n hx hb dX8_roomOn_272 rfl (lv_at hl 7 rfl) ?_
                    refine lv_bipush (v := 7) hx hb dX8_roomOn_273 (by decide) ?_
                    refine lv_aload_n hx hb dX8_roomOn_275 rfl (lv_at hl 6 rfl) ?_
                    refine lv_iload_n hx hb dX8_roomOn_276 rfl (lv_at hl 7 rfl) ?_
                    refine lv_bipush (v := 7) hx hb dX8_roomOn_277 (by decide) ?_
                    refine k_goI (k_runS (rest := [.int 7, .int (nI i), .ref ra]) (As := [.ref ra, .int (nI i), .int 7]) hx hb hml hown hts hK hP hD hS hA hE hl.1 (c_X8_of l G kk ra z_26 i 7 (by omega)) sl_X8_44 ⟨Nat.le_of_ble_eq_true rfl, Nat.le_of_ble_eq_true rfl, rfl, rfl⟩ [2] rfl rfl ⟨Nat.zero_le _, Nat.zero_le _⟩ rfl (Nat.le_of_ble_eq_true rfl) dX8_roomOn_279) hP hD hS hA [2] rfl ads1 (fun H locs hP hD hS => ?_)
                    replace hP : va_P G vwCl ([(h, .inr (8, moF b q)), ((b 7), .inl (kk 0, 6, .inl jb)), (ra, .inl (kk 0, 64, .inl z_26))]) H := hP
                    replace hD : va_D A ([(h, .inr (8, moF b q)), ((b 7), .inl (kk 0, 6, .inl jb)), (ra, .inl (kk 0, 64, .inl z_26))]) := hD
                    refine lv_iload hx hb dX8_roomOn_282 (lv_at hl 3 rfl) ?_
                    have J_61 : ∀ (x_28 : Int32) (ex_28 : x_28 = (if x_5 = 0 then 0 else 1)) (eS : sX8_roomOn jb f i = sX8_roomOn_j292 jb f i x_2 x_5 x_8 x_11 x_14 x_16 z_17 x_23 x_25 z_26 x_28) (H : Heap) (locs : List Loc) (ls : Array Slot) (hP : va_P G vwCl ([(h, .inr (8, moF b q)), ((b 7), .inl (kk 0, 6, .inl jb)), (ra, .inl (kk 0, 64, .inl z_26))]) H) (hD : va_D A ([(h, .inr (8, moF b q)), ((b 7), .inl (kk 0, 6, .inl jb)), (ra, .inl (kk 0, 64, .inl z_26))])) (hS : va_S A s.heap H locs) (hl : lv_has ls 9 [(7, .int x_14), (6, .int x_11), (5, .int x_8), (4, .int x_5), (3, .int x_2), (0, .ref h), (1, .ref ra), (2, .int (nI i))]), GO p l e (rmO 2 43) s m ([.ref h, .ref ra, .int (nI i)] : List Value).toArray below meth c A (QV G kk ([(h, .inr (8, moF b q)), ((b 7), .inl (kk 0, 6, .inl jb)), (ra, .inl (kk 0, 64, .inl (sX8_roomOn jb f i)))])) H locs (F0 m 292 ls [.int x_28, .int (sX8_of z_26 i 7), .int 7, .int (nI i), .ref ra]) := by
                      intro x_28 ex_28 eS H locs ls hP hD hS hl
                      refine lv_iadd hx hb dX8_roomOn_292 ?_
                      refine k_goV (k_runS (rest := []) (As := [.ref ra, .int (nI i), .int 7, .int ((sX8_of z_26 i 7) + x_28)]) hx hb hml hown hts hK hP hD hS hA hE hl.1 (c_X8_lay l G kk ra z_26 i 7 ((sX8_of z_26 i 7) + x_28) (by omega)) sl_X8_79 ⟨Nat.le_of_ble_eq_true rfl, Nat.le_of_ble_eq_true rfl, rfl, rfl⟩ [2] rfl rfl ⟨Nat.zero_le _, Nat.zero_le _⟩ rfl (Nat.le_of_ble_eq_true rfl) dX8_roomOn_293) hP hD hS hA [2] rfl ads1 (fun H locs hP hD hS => ?_)
                      replace hP : va_P G vwCl ([(h, .inr (8, moF b q)), ((b 7), .inl (kk 0, 6, .inl jb)), (ra, .inl (kk 0, 64, .inl (sX8_lay z_26 i 7 ((sX8_of z_26 i 7) + x_28))))]) H := hP
                      replace hD : va_D A ([(h, .inr (8, moF b q)), ((b 7), .inl (kk 0, 6, .inl jb)), (ra, .inl (kk 0, 64, .inl (sX8_lay z_26 i 7 ((sX8_of z_26 i 7) + x_28))))]) := hD
                      have eS : sX8_roomOn jb f i = sX8_roomOn_z_29 jb f i x_2 x_5 x_8 x_11 x_14 x_16 z_17 x_23 x_25 z_26 x_28 (sX8_lay z_26 i 7 ((sX8_of z_26 i 7) + x_28)) := eS
                      generalize sX8_lay z_26 i 7 ((sX8_of z_26 i 7) + x_28) = z_29 at hP hD eS ⊢
                      refine lv_aload_n hx hb dX8_roomOn_296 rfl (lv_at hl 6 rfl) ?_
                      refine lv_bipush (v := 6) hx hb dX8_roomOn_297 (by decide) ?_
                      refine lv_dup2_11 hx hb dX8_roomOn_299 rfl rfl ?_
                      refine r_iald hx hb hK hP 2 rfl 6 rfl (by decide) (by decide) dX8_roomOn_300 ?_
                      refine lv_iload hx hb dX8_roomOn_301 (lv_at hl 2 rfl) ?_
                      have J_62 : ∀ (x_31 : Int32) (ex_31 : x_31 = (if x_8 = 0 then 0 else 1)) (eS : sX8_roomOn jb f i = sX8_roomOn_j311 jb f i x_2 x_5 x_8 x_11 x_14 x_16 z_17 x_23 x_25 z_26 x_28 z_29 x_31) (H : Heap) (locs : List Loc) (ls : Array Slot) (hP : va_P G vwCl ([(h, .inr (8, moF b q)), ((b 7), .inl (kk 0, 6, .inl jb)), (ra, .inl (kk 0, 64, .inl z_29))]) H) (hD : va_D A ([(h, .inr (8, moF b q)), ((b 7), .inl (kk 0, 6, .inl jb)), (ra, .inl (kk 0, 64, .inl z_29))])) (hS : va_S A s.heap H locs) (hl : lv_has ls 9 [(7, .int x_14), (6, .int x_11), (5, .int x_8), (4, .int x_5), (3, .int x_2), (0, .ref h), (1, .ref ra), (2, .int (nI i))]), GO p l e (rmO 2 43) s m ([.ref h, .ref ra, .int (nI i)] : List Value).toArray below meth c A (QV G kk ([(h, .inr (8, moF b q)), ((b 7), .inl (kk 0, 6, .inl jb)), (ra, .inl (kk 0, 64, .inl (sX8_roomOn jb f i)))])) H locs (F0 m 311 ls [.int x_31, .int (z_29 6), .int 6, .ref ra]) := by
                        intro x_31 ex_31 eS H locs ls hP hD hS hl
                        refine lv_iadd hx hb dX8_roomOn_311 ?_
                        refine r_iast hx hb hK hP hD hS 2 rfl 6 rfl (by decide) (by decide) dX8_roomOn_312 (fun H locs hP hD hS => ?_)
                        replace hP : va_P G vwCl ([(h, .inr (8, moF b q)), ((b 7), .inl (kk 0, 6, .inl jb)), (ra, .inl (kk 0, 64, .inl (upd z_29 6 ((z_29 6) + x_31))))]) H := hP
                        replace hD : va_D A ([(h, .inr (8, moF b q)), ((b 7), .inl (kk 0, 6, .inl jb)), (ra, .inl (kk 0, 64, .inl (upd z_29 6 ((z_29 6) + x_31))))]) := hD
                        refine lv_aload_n hx hb dX8_roomOn_313 rfl (lv_at hl 6 rfl) ?_
                        refine lv_bipush (v := 7) hx hb dX8_roomOn_314 (by decide) ?_
                        refine lv_dup2_11 hx hb dX8_roomOn_316 rfl rfl ?_
                        refine r_iald hx hb hK hP 2 rfl 7 rfl (by decide) (by decide) dX8_roomOn_317 ?_
                        refine top_eq (y := (z_29 7)) (pk_un (by decide)) ?_
                        refine lv_aload_n hx hb dX8_roomOn_318 rfl (lv_at hl 5 rfl) ?_
                        refine r_get (v := .ref (b 7)) hx hb hts hown hK hP fl_X8_29 0 rfl rfl dX8_roomOn_319 ?_
                        refine lv_iload_n hx hb dX8_roomOn_322 rfl (lv_at hl 7 rfl) ?_
                        refine r_iald hx hb hK hP 1 rfl i rfl (by omega) (by decide) dX8_roomOn_323 ?_
                        refine lv_iconst (v := 4) hx hb dX8_roomOn_324 (by decide) ?_
                        have J_63 : ∀ (x_33 : Int32) (ex_33 : x_33 = (if (jb i) = 4 then 1 else 0)) (eS : sX8_roomOn jb f i = sX8_roomOn_j333 jb f i x_2 x_5 x_8 x_11 x_14 x_16 z_17 x_23 x_25 z_26 x_28 z_29 x_31 x_33) (H : Heap) (locs : List Loc) (ls : Array Slot) (hP : va_P G vwCl ([(h, .inr (8, moF b q)), ((b 7), .inl (kk 0, 6, .inl jb)), (ra, .inl (kk 0, 64, .inl (upd z_29 6 ((z_29 6) + x_31))))]) H) (hD : va_D A ([(h, .inr (8, moF b q)), ((b 7), .inl (kk 0, 6, .inl jb)), (ra, .inl (kk 0, 64, .inl (upd z_29 6 ((z_29 6) + x_31))))])) (hS : va_S A s.heap H locs) (hl : lv_has ls 9 [(7, .int x_14), (6, .int x_11), (5, .int x_8), (4, .int x_5), (3, .int x_2), (0, .ref h), (1, .ref ra), (2, .int (nI i))]), GO p l e (rmO 2 43) s m ([.ref h, .ref ra, .int (nI i)] : List Value).toArray below meth c A (QV G kk ([(h, .inr (8, moF b q)), ((b 7), .inl (kk 0, 6, .inl jb)), (ra, .inl (kk 0, 64, .inl (sX8_roomOn jb f i)))])) H locs (F0 m 333 ls [.int x_33, .int (z_29 7), .int 7, .ref ra]) := by
                          intro x_33 ex_33 eS H locs ls hP hD hS hl
                          refine lv_iadd hx hb dX8_roomOn_333 ?_
                          refine r_iast hx hb hK hP hD hS 2 rfl 7 rfl (by decide) (by decide) dX8_roomOn_334 (fun H locs hP hD hS => ?_)
                          replace hP : va_P G vwCl ([(h, .inr (8, moF b q)), ((b 7), .inl (kk 0, 6, .inl jb)), (ra, .inl (kk 0, 64, .inl (upd (upd z_29 6 ((z_29 6) + x_31)) 7 ((z_29 7) + x_33))))]) H := hP
                          replace hD : va_D A ([(h, .inr (8, moF b q)), ((b 7), .inl (kk 0, 6, .inl jb)), (ra, .inl (kk 0, 64, .inl (upd (upd z_29 6 ((z_29 6) + x_31)) 7 ((z_29 7) + x_33))))]) := hD
                          refine lv_aload_n hx hb dX8_roomOn_335 rfl (lv_at hl 6 rfl) ?_
                          refine lv_bipush (v := 8) hx hb dX8_roomOn_336 (by decide) ?_
                          refine lv_dup2_11 hx hb dX8_roomOn_338 rfl rfl ?_
                          refine r_iald hx hb hK hP 2 rfl 8 rfl (by decide) (by decide) dX8_roomOn_339 ?_
                          refine top_eq (y := (z_29 8)) ((pk_un (by decide)).trans (pk_un (by decide))) ?_
                          refine lv_aload_n hx hb dX8_roomOn_340 rfl (lv_at hl 5 rfl) ?_
                          refine r_get (v := .ref (b 7)) hx hb hts hown hK hP fl_X8_29 0 rfl rfl dX8_roomOn_341 ?_
                          refine lv_iload_n hx hb dX8_roomOn_344 rfl (lv_at hl 7 rfl) ?_
                          refine r_iald hx hb hK hP 1 rfl i rfl (by omega) (by decide) dX8_roomOn_345 ?_
                          refine lv_bipush (v := 6) hx hb dX8_roomOn_346 (by decide) ?_
                          have J_64 : ∀ (x_35 : Int32) (ex_35 : x_35 = (if (jb i) = 6 then 1 else 0)) (eS : sX8_roomOn jb f i = sX8_roomOn_j356 jb f i x_2 x_5 x_8 x_11 x_14 x_16 z_17 x_23 x_25 z_26 x_28 z_29 x_31 x_33 x_35) (H : Heap) (locs : List Loc) (ls : Array Slot) (hP : va_P G vwCl ([(h, .inr (8, moF b q)), ((b 7), .inl (kk 0, 6, .inl jb)), (ra, .inl (kk 0, 64, .inl (upd (upd z_29 6 ((z_29 6) + x_31)) 7 ((z_29 7) + x_33))))]) H) (hD : va_D A ([(h, .inr (8, moF b q)), ((b 7), .inl (kk 0, 6, .inl jb)), (ra, .inl (kk 0, 64, .inl (upd (upd z_29 6 ((z_29 6) + x_31)) 7 ((z_29 7) + x_33))))])) (hS : va_S A s.heap H locs) (hl : lv_has ls 9 [(7, .int x_14), (6, .int x_11), (5, .int x_8), (4, .int x_5), (3, .int x_2), (0, .ref h), (1, .ref ra), (2, .int (nI i))]), GO p l e (rmO 2 43) s m ([.ref h, .ref ra, .int (nI i)] : List Value).toArray below meth c A (QV G kk ([(h, .inr (8, moF b q)), ((b 7), .inl (kk 0, 6, .inl jb)), (ra, .inl (kk 0, 64, .inl (sX8_roomOn jb f i)))])) H locs (F0 m 356 ls [.int x_35, .int (z_29 8), .int 8, .ref ra]) := by
                            intro x_35 ex_35 eS H locs ls hP hD hS hl
                            refine lv_iadd hx hb dX8_roomOn_356 ?_
                            refine r_iast hx hb hK hP hD hS 2 rfl 8 rfl (by decide) (by decide) dX8_roomOn_357 (fun H locs hP hD hS => ?_)
                            replace hP : va_P G vwCl ([(h, .inr (8, moF b q)), ((b 7), .inl (kk 0, 6, .inl jb)), (ra, .inl (kk 0, 64, .inl (upd (upd (upd z_29 6 ((z_29 6) + x_31)) 7 ((z_29 7) + x_33)) 8 ((z_29 8) + x_35))))]) H := hP
                            replace hD : va_D A ([(h, .inr (8, moF b q)), ((b 7), .inl (kk 0, 6, .inl jb)), (ra, .inl (kk 0, 64, .inl (upd (upd (upd z_29 6 ((z_29 6) + x_31)) 7 ((z_29 7) + x_33)) 8 ((z_29 8) + x_35))))]) := hD
                            refine lv_aload_n hx hb dX8_roomOn_358 rfl (lv_at hl 6 rfl) ?_
                            refine lv_bipush (v := 9) hx hb dX8_roomOn_359 (by decide) ?_
                            refine lv_dup2_11 hx hb dX8_roomOn_361 rfl rfl ?_
                            refine r_iald hx hb hK hP 2 rfl 9 rfl (by decide) (by decide) dX8_roomOn_362 ?_
                            refine top_eq (y := (z_29 9)) ((pk_un (by decide)).trans ((pk_un (by decide)).trans (pk_un (by decide)))) ?_
                            refine lv_aload_n hx hb dX8_roomOn_363 rfl (lv_at hl 6 rfl) ?_
                            refine lv_iload_n hx hb dX8_roomOn_364 rfl (lv_at hl 7 rfl) ?_
                            refine k_goI (k_runS (rest := [.int (z_29 9), .int 9, .ref ra]) (As := [.ref ra, .int (nI i)]) hx hb hml hown hts hK hP hD hS hA hE hl.1 (c_X8_isWarm l G kk ra (upd (upd (upd z_29 6 ((z_29 6) + x_31)) 7 ((z_29 7) + x_33)) 8 ((z_29 8) + x_35)) i (by omega)) sl_X8_55 ⟨Nat.le_of_ble_eq_true rfl, Nat.le_of_ble_eq_true rfl, rfl, rfl⟩ [2] rfl rfl ⟨Nat.zero_le _, Nat.zero_le _⟩ rfl (Nat.le_of_ble_eq_true rfl) dX8_roomOn_365) hP hD hS hA [2] rfl ads1 (fun H locs hP hD hS => ?_)
                            replace hP : va_P G vwCl ([(h, .inr (8, moF b q)), ((b 7), .inl (kk 0, 6, .inl jb)), (ra, .inl (kk 0, 64, .inl (upd (upd (upd z_29 6 ((z_29 6) + x_31)) 7 ((z_29 7) + x_33)) 8 ((z_29 8) + x_35))))]) H := hP
                            replace hD : va_D A ([(h, .inr (8, moF b q)), ((b 7), .inl (kk 0, 6, .inl jb)), (ra, .inl (kk 0, 64, .inl (upd (upd (upd z_29 6 ((z_29 6) + x_31)) 7 ((z_29 7) + x_33)) 8 ((z_29 8) + x_35))))]) := hD
                            refine lv_if_eq (tgt := 375) hx hb dX8_roomOn_368 (by decide) (fun c_36 => ?_) (fun c_36 => ?_)
                            · have eS := eS.trans (if_pos c_36)
                              refine lv_iconst (v := 0) hx hb dX8_roomOn_375 (by decide) ?_
                              refine lv_iadd hx hb dX8_roomOn_376 ?_
                              refine r_iast hx hb hK hP hD hS 2 rfl 9 rfl (by decide) (by decide) dX8_roomOn_377 (fun H locs hP hD hS => ?_)
                              replace hP : va_P G vwCl ([(h, .inr (8, moF b q)), ((b 7), .inl (kk 0, 6, .inl jb)), (ra, .inl (kk 0, 64, .inl (upd (upd (upd (upd z_29 6 ((z_29 6) + x_31)) 7 ((z_29 7) + x_33)) 8 ((z_29 8) + x_35)) 9 ((z_29 9) + 0))))]) H := hP
                              replace hD : va_D A ([(h, .inr (8, moF b q)), ((b 7), .inl (kk 0, 6, .inl jb)), (ra, .inl (kk 0, 64, .inl (upd (upd (upd (upd z_29 6 ((z_29 6) + x_31)) 7 ((z_29 7) + x_33)) 8 ((z_29 8) + x_35)) 9 ((z_29 9) + 0))))]) := hD
                              exact fin_v hx hb hr hlocks hK (vP_eq (congrArg (fun z : (Nat → Int32) => ([(h, .inr (8, moF b q)), ((b 7), .inl (kk 0, 6, .inl jb)), (ra, .inl (kk 0, 64, .inl z))] : va_W)) eS.symm) hP) (vD_eq (congrArg (fun z : (Nat → Int32) => ([(h, .inr (8, moF b q)), ((b 7), .inl (kk 0, 6, .inl jb)), (ra, .inl (kk 0, 64, .inl z))] : va_W)) eS.symm) hD) hS dX8_roomOn_378
                            · have eS := eS.trans (if_neg c_36)
                              refine lv_iconst (v := 1) hx hb dX8_roomOn_371 (by decide) ?_
                              refine lv_goto (tgt := 376) hx hb dX8_roomOn_372 (by decide) ?_
                              refine lv_iadd hx hb dX8_roomOn_376 ?_
                              refine r_iast hx hb hK hP hD hS 2 rfl 9 rfl (by decide) (by decide) dX8_roomOn_377 (fun H locs hP hD hS => ?_)
                              replace hP : va_P G vwCl ([(h, .inr (8, moF b q)), ((b 7), .inl (kk 0, 6, .inl jb)), (ra, .inl (kk 0, 64, .inl (upd (upd (upd (upd z_29 6 ((z_29 6) + x_31)) 7 ((z_29 7) + x_33)) 8 ((z_29 8) + x_35)) 9 ((z_29 9) + 1))))]) H := hP
                              replace hD : va_D A ([(h, .inr (8, moF b q)), ((b 7), .inl (kk 0, 6, .inl jb)), (ra, .inl (kk 0, 64, .inl (upd (upd (upd (upd z_29 6 ((z_29 6) + x_31)) 7 ((z_29 7) + x_33)) 8 ((z_29 8) + x_35)) 9 ((z_29 9) + 1))))]) := hD
                              exact fin_v hx hb hr hlocks hK (vP_eq (congrArg (fun z : (Nat → Int32) => ([(h, .inr (8, moF b q)), ((b 7), .inl (kk 0, 6, .inl jb)), (ra, .inl (kk 0, 64, .inl z))] : va_W)) eS.symm) hP) (vD_eq (congrArg (fun z : (Nat → Int32) => ([(h, .inr (8, moF b q)), ((b 7), .inl (kk 0, 6, .inl jb)), (ra, .inl (kk 0, 64, .inl z))] : va_W)) eS.symm) hD) hS dX8_roomOn_378
                          refine lv_icmp_ne (tgt := 355) hx hb dX8_roomOn_348 (by decide) (fun c_34 => ?_) (fun c_34 => ?_)
                          · refine lv_iconst (v := 0) hx hb dX8_roomOn_355 (by decide) ?_
                            exact J_64 0 (if_neg c_34).symm (eS.trans (cg1 (sX8_roomOn_j356 jb f i x_2 x_5 x_8 x_11 x_14 x_16 z_17 x_23 x_25 z_26 x_28 z_29 x_31 x_33) (if_neg c_34))) _ _ ls hP hD hS (lv_sub hl [0, 1, 2, 3, 4, 5, 6, 7] rfl)
                          · refine lv_iconst (v := 1) hx hb dX8_roomOn_351 (by decide) ?_
                            refine lv_goto (tgt := 356) hx hb dX8_roomOn_352 (by decide) ?_
                            exact J_64 1 (if_pos c_34).symm (eS.trans (cg1 (sX8_roomOn_j356 jb f i x_2 x_5 x_8 x_11 x_14 x_16 z_17 x_23 x_25 z_26 x_28 z_29 x_31 x_33) (if_pos c_34))) _ _ ls hP hD hS (lv_sub hl [0, 1, 2, 3, 4, 5, 6, 7] rfl)
                        refine lv_icmp_ne (tgt := 332) hx hb dX8_roomOn_325 (by decide) (fun c_32 => ?_) (fun c_32 => ?_)
                        · refine lv_iconst (v := 0) hx hb dX8_roomOn_332 (by decide) ?_
                          exact J_63 0 (if_neg c_32).symm (eS.trans (cg1 (sX8_roomOn_j333 jb f i x_2 x_5 x_8 x_11 x_14 x_16 z_17 x_23 x_25 z_26 x_28 z_29 x_31) (if_neg c_32))) _ _ ls hP hD hS (lv_sub hl [0, 1, 2, 3, 4, 5, 6, 7] rfl)
                        · refine lv_iconst (v := 1) hx hb dX8_roomOn_328 (by decide) ?_
                          refine lv_goto (tgt := 333) hx hb dX8_roomOn_329 (by decide) ?_
                          exact J_63 1 (if_pos c_32).symm (eS.trans (cg1 (sX8_roomOn_j333 jb f i x_2 x_5 x_8 x_11 x_14 x_16 z_17 x_23 x_25 z_26 x_28 z_29 x_31) (if_pos c_32))) _ _ ls hP hD hS (lv_sub hl [0, 1, 2, 3, 4, 5, 6, 7] rfl)
                      refine lv_if_eq (tgt := 310) hx hb dX8_roomOn_303 (by decide) (fun c_30 => ?_) (fun c_30 => ?_)
                      · refine lv_iconst (v := 0) hx hb dX8_roomOn_310 (by decide) ?_
                        exact J_62 0 (if_pos c_30).symm (eS.trans (cg1 (sX8_roomOn_j311 jb f i x_2 x_5 x_8 x_11 x_14 x_16 z_17 x_23 x_25 z_26 x_28 z_29) (if_pos c_30))) _ _ ls hP hD hS (lv_sub hl [0, 1, 2, 3, 4, 5, 6, 7] rfl)
                      · refine lv_iconst (v := 1) hx hb dX8_roomOn_306 (by decide) ?_
                        refine lv_goto (tgt := 311) hx hb dX8_roomOn_307 (by decide) ?_
                        exact J_62 1 (if_neg c_30).symm (eS.trans (cg1 (sX8_roomOn_j311 jb f i x_2 x_5 x_8 x_11 x_14 x_16 z_17 x_23 x_25 z_26 x_28 z_29) (if_neg c_30))) _ _ ls hP hD hS (lv_sub hl [0, 1, 2, 3, 4, 5, 6, 7] rfl)
                    refine lv_if_eq (tgt := 291) hx hb dX8_roomOn_284 (by decide) (fun c_27 => ?_) (fun c_27 => ?_)
                    · refine lv_iconst (v := 0) hx hb dX8_roomOn_291 (by decide) ?_
                      exact J_61 0 (if_pos c_27).symm (eS.trans (cg1 (sX8_roomOn_j292 jb f i x_2 x_5 x_8 x_11 x_14 x_16 z_17 x_23 x_25 z_26) (if_pos c_27))) _ _ ls hP hD hS (lv_sub hl [0, 1, 2, 3, 4, 5, 6, 7] rfl)
                    · refine lv_iconst (v := 1) hx hb dX8_roomOn_287 (by decide) ?_
                      refine lv_goto (tgt := 292) hx hb dX8_roomOn_288 (by decide) ?_
                      exact J_61 1 (if_neg c_27).symm (eS.trans (cg1 (sX8_roomOn_j292 jb f i x_2 x_5 x_8 x_11 x_14 x_16 z_17 x_23 x_25 z_26) (if_neg c_27))) _ _ ls hP hD hS (lv_sub hl [0, 1, 2, 3, 4, 5, 6, 7] rfl)
                  refine lv_if_eq (tgt := 260) hx hb dX8_roomOn_253 (by decide) (fun c_24 => ?_) (fun c_24 => ?_)
                  · refine lv_iconst (v := 0) hx hb dX8_roomOn_260 (by decide) ?_
                    exact J_60 0 (if_pos c_24).symm (eS.trans (cg1 (sX8_roomOn_j261 jb f i x_2 x_5 x_8 x_11 x_14 x_16 z_17 x_23) (if_pos c_24))) _ _ ls hP hD hS (lv_sub hl [0, 1, 2, 3, 4, 5, 6, 7] rfl)
                  · refine lv_iconst (v := 2) hx hb dX8_roomOn_256 (by decide) ?_
                    refine lv_goto (tgt := 261) hx hb dX8_roomOn_257 (by decide) ?_
                    exact J_60 2 (if_neg c_24).symm (eS.trans (cg1 (sX8_roomOn_j261 jb f i x_2 x_5 x_8 x_11 x_14 x_16 z_17 x_23) (if_neg c_24))) _ _ ls hP hD hS (lv_sub hl [0, 1, 2, 3, 4, 5, 6, 7] rfl)
                refine lv_if_eq (tgt := 250) hx hb dX8_roomOn_243 (by decide) (fun c_22 => ?_) (fun c_22 => ?_)
                · refine lv_iconst (v := 0) hx hb dX8_roomOn_250 (by decide) ?_
                  exact J_59 0 (if_pos c_22).symm (eS.trans (cg1 (sX8_roomOn_j251 jb f i x_2 x_5 x_8 x_11 x_14 x_16 z_17) (if_pos c_22))) _ _ ls hP hD hS (lv_sub hl [0, 1, 2, 3, 4, 5, 6, 7] rfl)
                · refine lv_iconst (v := 1) hx hb dX8_roomOn_246 (by decide) ?_
                  refine lv_goto (tgt := 251) hx hb dX8_roomOn_247 (by decide) ?_
                  exact J_59 1 (if_neg c_22).symm (eS.trans (cg1 (sX8_roomOn_j251 jb f i x_2 x_5 x_8 x_11 x_14 x_16 z_17) (if_neg c_22))) _ _ ls hP hD hS (lv_sub hl [0, 1, 2, 3, 4, 5, 6, 7] rfl)
              · have eS := eS.trans (if_neg c_18)
                refine lv_iload hx hb dX8_roomOn_163 (lv_at hl 2 rfl) ?_
                have J_65 : ∀ (x_38 : Int32) (ex_38 : x_38 = (if x_8 = 0 then (sX8_of z_17 i 6) else (z_17 15))) (eS : sX8_roomOn jb f i = sX8_roomOn_j182 jb f i x_2 x_5 x_8 x_11 x_14 x_16 z_17 x_38) (H : Heap) (locs : List Loc) (ls : Array Slot) (hP : va_P G vwCl ([(h, .inr (8, moF b q)), ((b 7), .inl (kk 0, 6, .inl jb)), (ra, .inl (kk 0, 64, .inl z_17))]) H) (hD : va_D A ([(h, .inr (8, moF b q)), ((b 7), .inl (kk 0, 6, .inl jb)), (ra, .inl (kk 0, 64, .inl z_17))])) (hS : va_S A s.heap H locs) (hl : lv_has ls 9 [(7, .int x_14), (6, .int x_11), (5, .int x_8), (4, .int x_5), (3, .int x_2), (0, .ref h), (1, .ref ra), (2, .int (nI i))]), GO p l e (rmO 2 43) s m ([.ref h, .ref ra, .int (nI i)] : List Value).toArray below meth c A (QV G kk ([(h, .inr (8, moF b q)), ((b 7), .inl (kk 0, 6, .inl jb)), (ra, .inl (kk 0, 64, .inl (sX8_roomOn jb f i)))])) H locs (F0 m 182 ls [.int x_38]) := by
                  intro x_38 ex_38 eS H locs ls hP hD hS hl
                  refine lv_iconst (v := 1) hx hb dX8_roomOn_182 (by decide) ?_
                  refine lv_isub hx hb dX8_roomOn_183 ?_
                  refine lv_istore (lv' := [(8, .int (x_38 - 1)), (7, .int x_14), (6, .int x_11), (5, .int x_8), (4, .int x_5), (3, .int x_2), (0, .ref h), (1, .ref ra), (2, .int (nI i))]) hx hb dX8_roomOn_184 hl (by decide) rfl (fun ls hl => ?_)
                  refine lv_aload_n hx hb dX8_roomOn_186 rfl (lv_at hl 7 rfl) ?_
                  refine lv_iload_n hx hb dX8_roomOn_187 rfl (lv_at hl 8 rfl) ?_
                  refine lv_iconst (v := 5) hx hb dX8_roomOn_188 (by decide) ?_
                  refine lv_aload_n hx hb dX8_roomOn_189 rfl (lv_at hl 7 rfl) ?_
                  refine lv_iload_n hx hb dX8_roomOn_190 rfl (lv_at hl 8 rfl) ?_
                  refine lv_iconst (v := 5) hx hb dX8_roomOn_191 (by decide) ?_
                  refine k_goI (k_runS (rest := [.int 5, .int (nI i), .ref ra]) (As := [.ref ra, .int (nI i), .int 5]) hx hb hml hown hts hK hP hD hS hA hE hl.1 (c_X8_of l G kk ra z_17 i 5 (by omega)) sl_X8_44 ⟨Nat.le_of_ble_eq_true rfl, Nat.le_of_ble_eq_true rfl, rfl, rfl⟩ [2] rfl rfl ⟨Nat.zero_le _, Nat.zero_le _⟩ rfl (Nat.le_of_ble_eq_true rfl) dX8_roomOn_192) hP hD hS hA [2] rfl ads1 (fun H locs hP hD hS => ?_)
                  replace hP : va_P G vwCl ([(h, .inr (8, moF b q)), ((b 7), .inl (kk 0, 6, .inl jb)), (ra, .inl (kk 0, 64, .inl z_17))]) H := hP
                  replace hD : va_D A ([(h, .inr (8, moF b q)), ((b 7), .inl (kk 0, 6, .inl jb)), (ra, .inl (kk 0, 64, .inl z_17))]) := hD
                  refine lv_bipush (v := 10) hx hb dX8_roomOn_195 (by decide) ?_
                  refine lv_isub hx hb dX8_roomOn_197 ?_
                  refine lv_iconst (v := 0) hx hb dX8_roomOn_198 (by decide) ?_
                  refine lv_bipush (v := 100) hx hb dX8_roomOn_199 (by decide) ?_
                  refine k_goI (k_runS (rest := [.int 5, .int (nI i), .ref ra]) (As := [.int ((sX8_of z_17 i 5) - 10), .int 0, .int 100]) hx hb hml hown hts hK hP hD hS hA hE hl.1 (c_X8_clamp l G kk ((sX8_of z_17 i 5) - 10) 0 100 ) sl_X8_75 ⟨Nat.le_of_ble_eq_true rfl, Nat.le_of_ble_eq_true rfl, rfl, rfl⟩ [] rfl rfl ⟨Nat.zero_le _, Nat.zero_le _⟩ rfl (Nat.le_of_ble_eq_true rfl) dX8_roomOn_201) hP hD hS hA [] rfl ads0 (fun H locs hP hD hS => ?_)
                  replace hP : va_P G vwCl ([(h, .inr (8, moF b q)), ((b 7), .inl (kk 0, 6, .inl jb)), (ra, .inl (kk 0, 64, .inl z_17))]) H := hP
                  replace hD : va_D A ([(h, .inr (8, moF b q)), ((b 7), .inl (kk 0, 6, .inl jb)), (ra, .inl (kk 0, 64, .inl z_17))]) := hD
                  refine k_goV (k_runS (rest := []) (As := [.ref ra, .int (nI i), .int 5, .int (sX8_clamp ((sX8_of z_17 i 5) - 10) 0 100)]) hx hb hml hown hts hK hP hD hS hA hE hl.1 (c_X8_lay l G kk ra z_17 i 5 (sX8_clamp ((sX8_of z_17 i 5) - 10) 0 100) (by omega)) sl_X8_79 ⟨Nat.le_of_ble_eq_true rfl, Nat.le_of_ble_eq_true rfl, rfl, rfl⟩ [2] rfl rfl ⟨Nat.zero_le _, Nat.zero_le _⟩ rfl (Nat.le_of_ble_eq_true rfl) dX8_roomOn_204) hP hD hS hA [2] rfl ads1 (fun H locs hP hD hS => ?_)
                  replace hP : va_P G vwCl ([(h, .inr (8, moF b q)), ((b 7), .inl (kk 0, 6, .inl jb)), (ra, .inl (kk 0, 64, .inl (sX8_lay z_17 i 5 (sX8_clamp ((sX8_of z_17 i 5) - 10) 0 100))))]) H := hP
                  replace hD : va_D A ([(h, .inr (8, moF b q)), ((b 7), .inl (kk 0, 6, .inl jb)), (ra, .inl (kk 0, 64, .inl (sX8_lay z_17 i 5 (sX8_clamp ((sX8_of z_17 i 5) - 10) 0 100))))]) := hD
                  have eS : sX8_roomOn jb f i = sX8_roomOn_z_39 jb f i x_2 x_5 x_8 x_11 x_14 x_16 z_17 x_38 (sX8_lay z_17 i 5 (sX8_clamp ((sX8_of z_17 i 5) - 10) 0 100)) := eS
                  generalize sX8_lay z_17 i 5 (sX8_clamp ((sX8_of z_17 i 5) - 10) 0 100) = z_39 at hP hD eS ⊢
                  refine lv_aload_n hx hb dX8_roomOn_207 rfl (lv_at hl 7 rfl) ?_
                  refine lv_iload_n hx hb dX8_roomOn_208 rfl (lv_at hl 8 rfl) ?_
                  refine lv_bipush (v := 6) hx hb dX8_roomOn_209 (by decide) ?_
                  refine lv_aload_n hx hb dX8_roomOn_211 rfl (lv_at hl 7 rfl) ?_
                  refine lv_iload_n hx hb dX8_roomOn_212 rfl (lv_at hl 8 rfl) ?_
                  refine lv_iconst (v := 5) hx hb dX8_roomOn_213 (by decide) ?_
                  refine k_goI (k_runS (rest := [.int 6, .int (nI i), .ref ra]) (As := [.ref ra, .int (nI i), .int 5]) hx hb hml hown hts hK hP hD hS hA hE hl.1 (c_X8_of l G kk ra z_39 i 5 (by omega)) sl_X8_44 ⟨Nat.le_of_ble_eq_true rfl, Nat.le_of_ble_eq_true rfl, rfl, rfl⟩ [2] rfl rfl ⟨Nat.zero_le _, Nat.zero_le _⟩ rfl (Nat.le_of_ble_eq_true rfl) dX8_roomOn_214) hP hD hS hA [2] rfl ads1 (fun H locs hP hD hS => ?_)
                  replace hP : va_P G vwCl ([(h, .inr (8, moF b q)), ((b 7), .inl (kk 0, 6, .inl jb)), (ra, .inl (kk 0, 64, .inl z_39))]) H := hP
                  replace hD : va_D A ([(h, .inr (8, moF b q)), ((b 7), .inl (kk 0, 6, .inl jb)), (ra, .inl (kk 0, 64, .inl z_39))]) := hD
                  have J_66 : ∀ (x_41 : Int32) (ex_41 : x_41 = (if (sX8_of z_39 i 5) = 0 then 0 else (x_38 - 1))) (eS : sX8_roomOn jb f i = sX8_roomOn_j226 jb f i x_2 x_5 x_8 x_11 x_14 x_16 z_17 x_38 z_39 x_41) (H : Heap) (locs : List Loc) (ls : Array Slot) (hP : va_P G vwCl ([(h, .inr (8, moF b q)), ((b 7), .inl (kk 0, 6, .inl jb)), (ra, .inl (kk 0, 64, .inl z_39))]) H) (hD : va_D A ([(h, .inr (8, moF b q)), ((b 7), .inl (kk 0, 6, .inl jb)), (ra, .inl (kk 0, 64, .inl z_39))])) (hS : va_S A s.heap H locs) (hl : lv_has ls 9 [(8, .int (x_38 - 1)), (7, .int x_14), (6, .int x_11), (5, .int x_8), (4, .int x_5), (3, .int x_2), (0, .ref h), (1, .ref ra), (2, .int (nI i))]), GO p l e (rmO 2 43) s m ([.ref h, .ref ra, .int (nI i)] : List Value).toArray below meth c A (QV G kk ([(h, .inr (8, moF b q)), ((b 7), .inl (kk 0, 6, .inl jb)), (ra, .inl (kk 0, 64, .inl (sX8_roomOn jb f i)))])) H locs (F0 m 226 ls [.int x_41, .int 6, .int (nI i), .ref ra]) := by
                    intro x_41 ex_41 eS H locs ls hP hD hS hl
                    refine k_goV (k_runS (rest := []) (As := [.ref ra, .int (nI i), .int 6, .int x_41]) hx hb hml hown hts hK hP hD hS hA hE hl.1 (c_X8_lay l G kk ra z_39 i 6 x_41 (by omega)) sl_X8_79 ⟨Nat.le_of_ble_eq_true rfl, Nat.le_of_ble_eq_true rfl, rfl, rfl⟩ [2] rfl rfl ⟨Nat.zero_le _, Nat.zero_le _⟩ rfl (Nat.le_of_ble_eq_true rfl) dX8_roomOn_226) hP hD hS hA [2] rfl ads1 (fun H locs hP hD hS => ?_)
                    replace hP : va_P G vwCl ([(h, .inr (8, moF b q)), ((b 7), .inl (kk 0, 6, .inl jb)), (ra, .inl (kk 0, 64, .inl (sX8_lay z_39 i 6 x_41)))]) H := hP
                    replace hD : va_D A ([(h, .inr (8, moF b q)), ((b 7), .inl (kk 0, 6, .inl jb)), (ra, .inl (kk 0, 64, .inl (sX8_lay z_39 i 6 x_41)))]) := hD
                    have eS : sX8_roomOn jb f i = sX8_roomOn_z_42 jb f i x_2 x_5 x_8 x_11 x_14 x_16 z_17 x_38 z_39 x_41 (sX8_lay z_39 i 6 x_41) := eS
                    generalize sX8_lay z_39 i 6 x_41 = z_42 at hP hD eS ⊢
                    refine lv_goto (tgt := 271) hx hb dX8_roomOn_229 (by decide) ?_
                    refine lv_aload_n hx hb dX8_roomOn_271 rfl (lv_at hl 7 rfl) ?_
                    refine lv_iload_n hx hb dX8_roomOn_272 rfl (lv_at hl 8 rfl) ?_
                    refine lv_bipush (v := 7) hx hb dX8_roomOn_273 (by decide) ?_
                    refine lv_aload_n hx hb dX8_roomOn_275 rfl (lv_at hl 7 rfl) ?_
                    refine lv_iload_n hx hb dX8_roomOn_276 rfl (lv_at hl 8 rfl) ?_
                    refine lv_bipush (v := 7) hx hb dX8_roomOn_277 (by decide) ?_
                    refine k_goI (k_runS (rest := [.int 7, .int (nI i), .ref ra]) (As := [.ref ra, .int (nI i), .int 7]) hx hb hml hown hts hK hP hD hS hA hE hl.1 (c_X8_of l G kk ra z_42 i 7 (by omega)) sl_X8_44 ⟨Nat.le_of_ble_eq_true rfl, Nat.le_of_ble_eq_true rfl, rfl, rfl⟩ [2] rfl rfl ⟨Nat.zero_le _, Nat.zero_le _⟩ rfl (Nat.le_of_ble_eq_true rfl) dX8_roomOn_279) hP hD hS hA [2] rfl ads1 (fun H locs hP hD hS => ?_)
                    replace hP : va_P G vwCl ([(h, .inr (8, moF b q)), ((b 7), .inl (kk 0, 6, .inl jb)), (ra, .inl (kk 0, 64, .inl z_42))]) H := hP
                    replace hD : va_D A ([(h, .inr (8, moF b q)), ((b 7), .inl (kk 0, 6, .inl jb)), (ra, .inl (kk 0, 64, .inl z_42))]) := hD
                    refine lv_iload hx hb dX8_roomOn_282 (lv_at hl 4 rfl) ?_
                    have J_67 : ∀ (x_44 : Int32) (ex_44 : x_44 = (if x_5 = 0 then 0 else 1)) (eS : sX8_roomOn jb f i = sX8_roomOn_j292' jb f i x_2 x_5 x_8 x_11 x_14 x_16 z_17 x_38 z_39 x_41 z_42 x_44) (H : Heap) (locs : List Loc) (ls : Array Slot) (hP : va_P G vwCl ([(h, .inr (8, moF b q)), ((b 7), .inl (kk 0, 6, .inl jb)), (ra, .inl (kk 0, 64, .inl z_42))]) H) (hD : va_D A ([(h, .inr (8, moF b q)), ((b 7), .inl (kk 0, 6, .inl jb)), (ra, .inl (kk 0, 64, .inl z_42))])) (hS : va_S A s.heap H locs) (hl : lv_has ls 9 [(8, .int (x_38 - 1)), (7, .int x_14), (6, .int x_11), (5, .int x_8), (4, .int x_5), (3, .int x_2), (0, .ref h), (1, .ref ra), (2, .int (nI i))]), GO p l e (rmO 2 43) s m ([.ref h, .ref ra, .int (nI i)] : List Value).toArray below meth c A (QV G kk ([(h, .inr (8, moF b q)), ((b 7), .inl (kk 0, 6, .inl jb)), (ra, .inl (kk 0, 64, .inl (sX8_roomOn jb f i)))])) H locs (F0 m 292 ls [.int x_44, .int (sX8_of z_42 i 7), .int 7, .int (nI i), .ref ra]) := by
                      intro x_44 ex_44 eS H locs ls hP hD hS hl
                      refine lv_iadd hx hb dX8_roomOn_292 ?_
                      refine k_goV (k_runS (rest := []) (As := [.ref ra, .int (nI i), .int 7, .int ((sX8_of z_42 i 7) + x_44)]) hx hb hml hown hts hK hP hD hS hA hE hl.1 (c_X8_lay l G kk ra z_42 i 7 ((sX8_of z_42 i 7) + x_44) (by omega)) sl_X8_79 ⟨Nat.le_of_ble_eq_true rfl, Nat.le_of_ble_eq_true rfl, rfl, rfl⟩ [2] rfl rfl ⟨Nat.zero_le _, Nat.zero_le _⟩ rfl (Nat.le_of_ble_eq_true rfl) dX8_roomOn_293) hP hD hS hA [2] rfl ads1 (fun H locs hP hD hS => ?_)
                      replace hP : va_P G vwCl ([(h, .inr (8, moF b q)), ((b 7), .inl (kk 0, 6, .inl jb)), (ra, .inl (kk 0, 64, .inl (sX8_lay z_42 i 7 ((sX8_of z_42 i 7) + x_44))))]) H := hP
                      replace hD : va_D A ([(h, .inr (8, moF b q)), ((b 7), .inl (kk 0, 6, .inl jb)), (ra, .inl (kk 0, 64, .inl (sX8_lay z_42 i 7 ((sX8_of z_42 i 7) + x_44))))]) := hD
                      have eS : sX8_roomOn jb f i = sX8_roomOn_z_45 jb f i x_2 x_5 x_8 x_11 x_14 x_16 z_17 x_38 z_39 x_41 z_42 x_44 (sX8_lay z_42 i 7 ((sX8_of z_42 i 7) + x_44)) := eS
                      generalize sX8_lay z_42 i 7 ((sX8_of z_42 i 7) + x_44) = z_45 at hP hD eS ⊢
                      refine lv_aload_n hx hb dX8_roomOn_296 rfl (lv_at hl 7 rfl) ?_
                      refine lv_bipush (v := 6) hx hb dX8_roomOn_297 (by decide) ?_
                      refine lv_dup2_11 hx hb dX8_roomOn_299 rfl rfl ?_
                      refine r_iald hx hb hK hP 2 rfl 6 rfl (by decide) (by decide) dX8_roomOn_300 ?_
                      refine lv_iload hx hb dX8_roomOn_301 (lv_at hl 3 rfl) ?_
                      have J_68 : ∀ (x_47 : Int32) (ex_47 : x_47 = (if x_8 = 0 then 0 else 1)) (eS : sX8_roomOn jb f i = sX8_roomOn_j311' jb f i x_2 x_5 x_8 x_11 x_14 x_16 z_17 x_38 z_39 x_41 z_42 x_44 z_45 x_47) (H : Heap) (locs : List Loc) (ls : Array Slot) (hP : va_P G vwCl ([(h, .inr (8, moF b q)), ((b 7), .inl (kk 0, 6, .inl jb)), (ra, .inl (kk 0, 64, .inl z_45))]) H) (hD : va_D A ([(h, .inr (8, moF b q)), ((b 7), .inl (kk 0, 6, .inl jb)), (ra, .inl (kk 0, 64, .inl z_45))])) (hS : va_S A s.heap H locs) (hl : lv_has ls 9 [(8, .int (x_38 - 1)), (7, .int x_14), (6, .int x_11), (5, .int x_8), (4, .int x_5), (3, .int x_2), (0, .ref h), (1, .ref ra), (2, .int (nI i))]), GO p l e (rmO 2 43) s m ([.ref h, .ref ra, .int (nI i)] : List Value).toArray below meth c A (QV G kk ([(h, .inr (8, moF b q)), ((b 7), .inl (kk 0, 6, .inl jb)), (ra, .inl (kk 0, 64, .inl (sX8_roomOn jb f i)))])) H locs (F0 m 311 ls [.int x_47, .int (z_45 6), .int 6, .ref ra]) := by
                        intro x_47 ex_47 eS H locs ls hP hD hS hl
                        refine lv_iadd hx hb dX8_roomOn_311 ?_
                        refine r_iast hx hb hK hP hD hS 2 rfl 6 rfl (by decide) (by decide) dX8_roomOn_312 (fun H locs hP hD hS => ?_)
                        replace hP : va_P G vwCl ([(h, .inr (8, moF b q)), ((b 7), .inl (kk 0, 6, .inl jb)), (ra, .inl (kk 0, 64, .inl (upd z_45 6 ((z_45 6) + x_47))))]) H := hP
                        replace hD : va_D A ([(h, .inr (8, moF b q)), ((b 7), .inl (kk 0, 6, .inl jb)), (ra, .inl (kk 0, 64, .inl (upd z_45 6 ((z_45 6) + x_47))))]) := hD
                        refine lv_aload_n hx hb dX8_roomOn_313 rfl (lv_at hl 7 rfl) ?_
                        refine lv_bipush (v := 7) hx hb dX8_roomOn_314 (by decide) ?_
                        refine lv_dup2_11 hx hb dX8_roomOn_316 rfl rfl ?_
                        refine r_iald hx hb hK hP 2 rfl 7 rfl (by decide) (by decide) dX8_roomOn_317 ?_
                        refine top_eq (y := (z_45 7)) (pk_un (by decide)) ?_
                        refine lv_aload_n hx hb dX8_roomOn_318 rfl (lv_at hl 6 rfl) ?_
                        refine r_get (v := .ref (b 7)) hx hb hts hown hK hP fl_X8_29 0 rfl rfl dX8_roomOn_319 ?_
                        refine lv_iload_n hx hb dX8_roomOn_322 rfl (lv_at hl 8 rfl) ?_
                        refine r_iald hx hb hK hP 1 rfl i rfl (by omega) (by decide) dX8_roomOn_323 ?_
                        refine lv_iconst (v := 4) hx hb dX8_roomOn_324 (by decide) ?_
                        have J_69 : ∀ (x_49 : Int32) (ex_49 : x_49 = (if (jb i) = 4 then 1 else 0)) (eS : sX8_roomOn jb f i = sX8_roomOn_j333' jb f i x_2 x_5 x_8 x_11 x_14 x_16 z_17 x_38 z_39 x_41 z_42 x_44 z_45 x_47 x_49) (H : Heap) (locs : List Loc) (ls : Array Slot) (hP : va_P G vwCl ([(h, .inr (8, moF b q)), ((b 7), .inl (kk 0, 6, .inl jb)), (ra, .inl (kk 0, 64, .inl (upd z_45 6 ((z_45 6) + x_47))))]) H) (hD : va_D A ([(h, .inr (8, moF b q)), ((b 7), .inl (kk 0, 6, .inl jb)), (ra, .inl (kk 0, 64, .inl (upd z_45 6 ((z_45 6) + x_47))))])) (hS : va_S A s.heap H locs) (hl : lv_has ls 9 [(8, .int (x_38 - 1)), (7, .int x_14), (6, .int x_11), (5, .int x_8), (4, .int x_5), (3, .int x_2), (0, .ref h), (1, .ref ra), (2, .int (nI i))]), GO p l e (rmO 2 43) s m ([.ref h, .ref ra, .int (nI i)] : List Value).toArray below meth c A (QV G kk ([(h, .inr (8, moF b q)), ((b 7), .inl (kk 0, 6, .inl jb)), (ra, .inl (kk 0, 64, .inl (sX8_roomOn jb f i)))])) H locs (F0 m 333 ls [.int x_49, .int (z_45 7), .int 7, .ref ra]) := by
                          intro x_49 ex_49 eS H locs ls hP hD hS hl
                          refine lv_iadd hx hb dX8_roomOn_333 ?_
                          refine r_iast hx hb hK hP hD hS 2 rfl 7 rfl (by decide) (by decide) dX8_roomOn_334 (fun H locs hP hD hS => ?_)
                          replace hP : va_P G vwCl ([(h, .inr (8, moF b q)), ((b 7), .inl (kk 0, 6, .inl jb)), (ra, .inl (kk 0, 64, .inl (upd (upd z_45 6 ((z_45 6) + x_47)) 7 ((z_45 7) + x_49))))]) H := hP
                          replace hD : va_D A ([(h, .inr (8, moF b q)), ((b 7), .inl (kk 0, 6, .inl jb)), (ra, .inl (kk 0, 64, .inl (upd (upd z_45 6 ((z_45 6) + x_47)) 7 ((z_45 7) + x_49))))]) := hD
                          refine lv_aload_n hx hb dX8_roomOn_335 rfl (lv_at hl 7 rfl) ?_
                          refine lv_bipush (v := 8) hx hb dX8_roomOn_336 (by decide) ?_
                          refine lv_dup2_11 hx hb dX8_roomOn_338 rfl rfl ?_
                          refine r_iald hx hb hK hP 2 rfl 8 rfl (by decide) (by decide) dX8_roomOn_339 ?_
                          refine top_eq (y := (z_45 8)) ((pk_un (by decide)).trans (pk_un (by decide))) ?_
                          refine lv_aload_n hx hb dX8_roomOn_340 rfl (lv_at hl 6 rfl) ?_
                          refine r_get (v := .ref (b 7)) hx hb hts hown hK hP fl_X8_29 0 rfl rfl dX8_roomOn_341 ?_
                          refine lv_iload_n hx hb dX8_roomOn_344 rfl (lv_at hl 8 rfl) ?_
                          refine r_iald hx hb hK hP 1 rfl i rfl (by omega) (by decide) dX8_roomOn_345 ?_
                          refine lv_bipush (v := 6) hx hb dX8_roomOn_346 (by decide) ?_
                          have J_70 : ∀ (x_51 : Int32) (ex_51 : x_51 = (if (jb i) = 6 then 1 else 0)) (eS : sX8_roomOn jb f i = sX8_roomOn_j356' jb f i x_2 x_5 x_8 x_11 x_14 x_16 z_17 x_38 z_39 x_41 z_42 x_44 z_45 x_47 x_49 x_51) (H : Heap) (locs : List Loc) (ls : Array Slot) (hP : va_P G vwCl ([(h, .inr (8, moF b q)), ((b 7), .inl (kk 0, 6, .inl jb)), (ra, .inl (kk 0, 64, .inl (upd (upd z_45 6 ((z_45 6) + x_47)) 7 ((z_45 7) + x_49))))]) H) (hD : va_D A ([(h, .inr (8, moF b q)), ((b 7), .inl (kk 0, 6, .inl jb)), (ra, .inl (kk 0, 64, .inl (upd (upd z_45 6 ((z_45 6) + x_47)) 7 ((z_45 7) + x_49))))])) (hS : va_S A s.heap H locs) (hl : lv_has ls 9 [(8, .int (x_38 - 1)), (7, .int x_14), (6, .int x_11), (5, .int x_8), (4, .int x_5), (3, .int x_2), (0, .ref h), (1, .ref ra), (2, .int (nI i))]), GO p l e (rmO 2 43) s m ([.ref h, .ref ra, .int (nI i)] : List Value).toArray below meth c A (QV G kk ([(h, .inr (8, moF b q)), ((b 7), .inl (kk 0, 6, .inl jb)), (ra, .inl (kk 0, 64, .inl (sX8_roomOn jb f i)))])) H locs (F0 m 356 ls [.int x_51, .int (z_45 8), .int 8, .ref ra]) := by
                            intro x_51 ex_51 eS H locs ls hP hD hS hl
                            refine lv_iadd hx hb dX8_roomOn_356 ?_
                            refine r_iast hx hb hK hP hD hS 2 rfl 8 rfl (by decide) (by decide) dX8_roomOn_357 (fun H locs hP hD hS => ?_)
                            replace hP : va_P G vwCl ([(h, .inr (8, moF b q)), ((b 7), .inl (kk 0, 6, .inl jb)), (ra, .inl (kk 0, 64, .inl (upd (upd (upd z_45 6 ((z_45 6) + x_47)) 7 ((z_45 7) + x_49)) 8 ((z_45 8) + x_51))))]) H := hP
                            replace hD : va_D A ([(h, .inr (8, moF b q)), ((b 7), .inl (kk 0, 6, .inl jb)), (ra, .inl (kk 0, 64, .inl (upd (upd (upd z_45 6 ((z_45 6) + x_47)) 7 ((z_45 7) + x_49)) 8 ((z_45 8) + x_51))))]) := hD
                            refine lv_aload_n hx hb dX8_roomOn_358 rfl (lv_at hl 7 rfl) ?_
                            refine lv_bipush (v := 9) hx hb dX8_roomOn_359 (by decide) ?_
                            refine lv_dup2_11 hx hb dX8_roomOn_361 rfl rfl ?_
                            refine r_iald hx hb hK hP 2 rfl 9 rfl (by decide) (by decide) dX8_roomOn_362 ?_
                            refine top_eq (y := (z_45 9)) ((pk_un (by decide)).trans ((pk_un (by decide)).trans (pk_un (by decide)))) ?_
                            refine lv_aload_n hx hb dX8_roomOn_363 rfl (lv_at hl 7 rfl) ?_
                            refine lv_iload_n hx hb dX8_roomOn_364 rfl (lv_at hl 8 rfl) ?_
                            refine k_goI (k_runS (rest := [.int (z_45 9), .int 9, .ref ra]) (As := [.ref ra, .int (nI i)]) hx hb hml hown hts hK hP hD hS hA hE hl.1 (c_X8_isWarm l G kk ra (upd (upd (upd z_45 6 ((z_45 6) + x_47)) 7 ((z_45 7) + x_49)) 8 ((z_45 8) + x_51)) i (by omega)) sl_X8_55 ⟨Nat.le_of_ble_eq_true rfl, Nat.le_of_ble_eq_true rfl, rfl, rfl⟩ [2] rfl rfl ⟨Nat.zero_le _, Nat.zero_le _⟩ rfl (Nat.le_of_ble_eq_true rfl) dX8_roomOn_365) hP hD hS hA [2] rfl ads1 (fun H locs hP hD hS => ?_)
                            replace hP : va_P G vwCl ([(h, .inr (8, moF b q)), ((b 7), .inl (kk 0, 6, .inl jb)), (ra, .inl (kk 0, 64, .inl (upd (upd (upd z_45 6 ((z_45 6) + x_47)) 7 ((z_45 7) + x_49)) 8 ((z_45 8) + x_51))))]) H := hP
                            replace hD : va_D A ([(h, .inr (8, moF b q)), ((b 7), .inl (kk 0, 6, .inl jb)), (ra, .inl (kk 0, 64, .inl (upd (upd (upd z_45 6 ((z_45 6) + x_47)) 7 ((z_45 7) + x_49)) 8 ((z_45 8) + x_51))))]) := hD
                            refine lv_if_eq (tgt := 375) hx hb dX8_roomOn_368 (by decide) (fun c_52 => ?_) (fun c_52 => ?_)
                            · have eS := eS.trans (if_pos c_52)
                              refine lv_iconst (v := 0) hx hb dX8_roomOn_375 (by decide) ?_
                              refine lv_iadd hx hb dX8_roomOn_376 ?_
                              refine r_iast hx hb hK hP hD hS 2 rfl 9 rfl (by decide) (by decide) dX8_roomOn_377 (fun H locs hP hD hS => ?_)
                              replace hP : va_P G vwCl ([(h, .inr (8, moF b q)), ((b 7), .inl (kk 0, 6, .inl jb)), (ra, .inl (kk 0, 64, .inl (upd (upd (upd (upd z_45 6 ((z_45 6) + x_47)) 7 ((z_45 7) + x_49)) 8 ((z_45 8) + x_51)) 9 ((z_45 9) + 0))))]) H := hP
                              replace hD : va_D A ([(h, .inr (8, moF b q)), ((b 7), .inl (kk 0, 6, .inl jb)), (ra, .inl (kk 0, 64, .inl (upd (upd (upd (upd z_45 6 ((z_45 6) + x_47)) 7 ((z_45 7) + x_49)) 8 ((z_45 8) + x_51)) 9 ((z_45 9) + 0))))]) := hD
                              exact fin_v hx hb hr hlocks hK (vP_eq (congrArg (fun z : (Nat → Int32) => ([(h, .inr (8, moF b q)), ((b 7), .inl (kk 0, 6, .inl jb)), (ra, .inl (kk 0, 64, .inl z))] : va_W)) eS.symm) hP) (vD_eq (congrArg (fun z : (Nat → Int32) => ([(h, .inr (8, moF b q)), ((b 7), .inl (kk 0, 6, .inl jb)), (ra, .inl (kk 0, 64, .inl z))] : va_W)) eS.symm) hD) hS dX8_roomOn_378
                            · have eS := eS.trans (if_neg c_52)
                              refine lv_iconst (v := 1) hx hb dX8_roomOn_371 (by decide) ?_
                              refine lv_goto (tgt := 376) hx hb dX8_roomOn_372 (by decide) ?_
                              refine lv_iadd hx hb dX8_roomOn_376 ?_
                              refine r_iast hx hb hK hP hD hS 2 rfl 9 rfl (by decide) (by decide) dX8_roomOn_377 (fun H locs hP hD hS => ?_)
                              replace hP : va_P G vwCl ([(h, .inr (8, moF b q)), ((b 7), .inl (kk 0, 6, .inl jb)), (ra, .inl (kk 0, 64, .inl (upd (upd (upd (upd z_45 6 ((z_45 6) + x_47)) 7 ((z_45 7) + x_49)) 8 ((z_45 8) + x_51)) 9 ((z_45 9) + 1))))]) H := hP
                              replace hD : va_D A ([(h, .inr (8, moF b q)), ((b 7), .inl (kk 0, 6, .inl jb)), (ra, .inl (kk 0, 64, .inl (upd (upd (upd (upd z_45 6 ((z_45 6) + x_47)) 7 ((z_45 7) + x_49)) 8 ((z_45 8) + x_51)) 9 ((z_45 9) + 1))))]) := hD
                              exact fin_v hx hb hr hlocks hK (vP_eq (congrArg (fun z : (Nat → Int32) => ([(h, .inr (8, moF b q)), ((b 7), .inl (kk 0, 6, .inl jb)), (ra, .inl (kk 0, 64, .inl z))] : va_W)) eS.symm) hP) (vD_eq (congrArg (fun z : (Nat → Int32) => ([(h, .inr (8, moF b q)), ((b 7), .inl (kk 0, 6, .inl jb)), (ra, .inl (kk 0, 64, .inl z))] : va_W)) eS.symm) hD) hS dX8_roomOn_378
                          refine lv_icmp_ne (tgt := 355) hx hb dX8_roomOn_348 (by decide) (fun c_50 => ?_) (fun c_50 => ?_)
                          · refine lv_iconst (v := 0) hx hb dX8_roomOn_355 (by decide) ?_
                            exact J_70 0 (if_neg c_50).symm (eS.trans (cg1 (sX8_roomOn_j356' jb f i x_2 x_5 x_8 x_11 x_14 x_16 z_17 x_38 z_39 x_41 z_42 x_44 z_45 x_47 x_49) (if_neg c_50))) _ _ ls hP hD hS (lv_sub hl [0, 1, 2, 3, 4, 5, 6, 7, 8] rfl)
                          · refine lv_iconst (v := 1) hx hb dX8_roomOn_351 (by decide) ?_
                            refine lv_goto (tgt := 356) hx hb dX8_roomOn_352 (by decide) ?_
                            exact J_70 1 (if_pos c_50).symm (eS.trans (cg1 (sX8_roomOn_j356' jb f i x_2 x_5 x_8 x_11 x_14 x_16 z_17 x_38 z_39 x_41 z_42 x_44 z_45 x_47 x_49) (if_pos c_50))) _ _ ls hP hD hS (lv_sub hl [0, 1, 2, 3, 4, 5, 6, 7, 8] rfl)
                        refine lv_icmp_ne (tgt := 332) hx hb dX8_roomOn_325 (by decide) (fun c_48 => ?_) (fun c_48 => ?_)
                        · refine lv_iconst (v := 0) hx hb dX8_roomOn_332 (by decide) ?_
                          exact J_69 0 (if_neg c_48).symm (eS.trans (cg1 (sX8_roomOn_j333' jb f i x_2 x_5 x_8 x_11 x_14 x_16 z_17 x_38 z_39 x_41 z_42 x_44 z_45 x_47) (if_neg c_48))) _ _ ls hP hD hS (lv_sub hl [0, 1, 2, 3, 4, 5, 6, 7, 8] rfl)
                        · refine lv_iconst (v := 1) hx hb dX8_roomOn_328 (by decide) ?_
                          refine lv_goto (tgt := 333) hx hb dX8_roomOn_329 (by decide) ?_
                          exact J_69 1 (if_pos c_48).symm (eS.trans (cg1 (sX8_roomOn_j333' jb f i x_2 x_5 x_8 x_11 x_14 x_16 z_17 x_38 z_39 x_41 z_42 x_44 z_45 x_47) (if_pos c_48))) _ _ ls hP hD hS (lv_sub hl [0, 1, 2, 3, 4, 5, 6, 7, 8] rfl)
                      refine lv_if_eq (tgt := 310) hx hb dX8_roomOn_303 (by decide) (fun c_46 => ?_) (fun c_46 => ?_)
                      · refine lv_iconst (v := 0) hx hb dX8_roomOn_310 (by decide) ?_
                        exact J_68 0 (if_pos c_46).symm (eS.trans (cg1 (sX8_roomOn_j311' jb f i x_2 x_5 x_8 x_11 x_14 x_16 z_17 x_38 z_39 x_41 z_42 x_44 z_45) (if_pos c_46))) _ _ ls hP hD hS (lv_sub hl [0, 1, 2, 3, 4, 5, 6, 7, 8] rfl)
                      · refine lv_iconst (v := 1) hx hb dX8_roomOn_306 (by decide) ?_
                        refine lv_goto (tgt := 311) hx hb dX8_roomOn_307 (by decide) ?_
                        exact J_68 1 (if_neg c_46).symm (eS.trans (cg1 (sX8_roomOn_j311' jb f i x_2 x_5 x_8 x_11 x_14 x_16 z_17 x_38 z_39 x_41 z_42 x_44 z_45) (if_neg c_46))) _ _ ls hP hD hS (lv_sub hl [0, 1, 2, 3, 4, 5, 6, 7, 8] rfl)
                    refine lv_if_eq (tgt := 291) hx hb dX8_roomOn_284 (by decide) (fun c_43 => ?_) (fun c_43 => ?_)
                    · refine lv_iconst (v := 0) hx hb dX8_roomOn_291 (by decide) ?_
                      exact J_67 0 (if_pos c_43).symm (eS.trans (cg1 (sX8_roomOn_j292' jb f i x_2 x_5 x_8 x_11 x_14 x_16 z_17 x_38 z_39 x_41 z_42) (if_pos c_43))) _ _ ls hP hD hS (lv_sub hl [0, 1, 2, 3, 4, 5, 6, 7, 8] rfl)
                    · refine lv_iconst (v := 1) hx hb dX8_roomOn_287 (by decide) ?_
                      refine lv_goto (tgt := 292) hx hb dX8_roomOn_288 (by decide) ?_
                      exact J_67 1 (if_neg c_43).symm (eS.trans (cg1 (sX8_roomOn_j292' jb f i x_2 x_5 x_8 x_11 x_14 x_16 z_17 x_38 z_39 x_41 z_42) (if_neg c_43))) _ _ ls hP hD hS (lv_sub hl [0, 1, 2, 3, 4, 5, 6, 7, 8] rfl)
                  refine lv_if_ne (tgt := 224) hx hb dX8_roomOn_217 (by decide) (fun c_40 => ?_) (fun c_40 => ?_)
                  · refine lv_iload hx hb dX8_roomOn_224 (lv_at hl 0 rfl) ?_
                    exact J_66 (x_38 - 1) (if_neg c_40).symm (eS.trans (cg1 (sX8_roomOn_j226 jb f i x_2 x_5 x_8 x_11 x_14 x_16 z_17 x_38 z_39) (if_neg c_40))) _ _ ls hP hD hS (lv_sub hl [0, 1, 2, 3, 4, 5, 6, 7, 8] rfl)
                  · refine lv_iconst (v := 0) hx hb dX8_roomOn_220 (by decide) ?_
                    refine lv_goto (tgt := 226) hx hb dX8_roomOn_221 (by decide) ?_
                    exact J_66 0 (if_pos c_40).symm (eS.trans (cg1 (sX8_roomOn_j226 jb f i x_2 x_5 x_8 x_11 x_14 x_16 z_17 x_38 z_39) (if_pos c_40))) _ _ ls hP hD hS (lv_sub hl [0, 1, 2, 3, 4, 5, 6, 7, 8] rfl)
                refine lv_if_eq (tgt := 175) hx hb dX8_roomOn_165 (by decide) (fun c_37 => ?_) (fun c_37 => ?_)
                · refine lv_aload_n hx hb dX8_roomOn_175 rfl (lv_at hl 6 rfl) ?_
                  refine lv_iload_n hx hb dX8_roomOn_176 rfl (lv_at hl 7 rfl) ?_
                  refine lv_bipush (v := 6) hx hb dX8_roomOn_177 (by decide) ?_
                  refine k_goI (k_runS (rest := []) (As := [.ref ra, .int (nI i), .int 6]) hx hb hml hown hts hK hP hD hS hA hE hl.1 (c_X8_of l G kk ra z_17 i 6 (by omega)) sl_X8_44 ⟨Nat.le_of_ble_eq_true rfl, Nat.le_of_ble_eq_true rfl, rfl, rfl⟩ [2] rfl rfl ⟨Nat.zero_le _, Nat.zero_le _⟩ rfl (Nat.le_of_ble_eq_true rfl) dX8_roomOn_179) hP hD hS hA [2] rfl ads1 (fun H locs hP hD hS => ?_)
                  replace hP : va_P G vwCl ([(h, .inr (8, moF b q)), ((b 7), .inl (kk 0, 6, .inl jb)), (ra, .inl (kk 0, 64, .inl z_17))]) H := hP
                  replace hD : va_D A ([(h, .inr (8, moF b q)), ((b 7), .inl (kk 0, 6, .inl jb)), (ra, .inl (kk 0, 64, .inl z_17))]) := hD
                  exact J_65 (sX8_of z_17 i 6) (if_pos c_37).symm (eS.trans (cg1 (sX8_roomOn_j182 jb f i x_2 x_5 x_8 x_11 x_14 x_16 z_17) (if_pos c_37))) _ _ ls hP hD hS (lv_sub hl [0, 1, 2, 3, 4, 5, 6, 7] rfl)
                · refine lv_aload_n hx hb dX8_roomOn_168 rfl (lv_at hl 6 rfl) ?_
                  refine lv_bipush (v := 15) hx hb dX8_roomOn_169 (by decide) ?_
                  refine r_iald hx hb hK hP 2 rfl 15 rfl (by decide) (by decide) dX8_roomOn_171 ?_
                  refine lv_goto (tgt := 182) hx hb dX8_roomOn_172 (by decide) ?_
                  exact J_65 (z_17 15) (if_neg c_37).symm (eS.trans (cg1 (sX8_roomOn_j182 jb f i x_2 x_5 x_8 x_11 x_14 x_16 z_17) (if_neg c_37))) _ _ ls hP hD hS (lv_sub hl [0, 1, 2, 3, 4, 5, 6, 7] rfl)
            refine lv_if_eq (tgt := 144) hx hb dX8_roomOn_137 (by decide) (fun c_15 => ?_) (fun c_15 => ?_)
            · refine lv_iconst (v := 0) hx hb dX8_roomOn_144 (by decide) ?_
              exact J_58 0 (if_pos c_15).symm (eS.trans (cg1 (sX8_roomOn_j145 jb f i x_2 x_5 x_8 x_11 x_14) (if_pos c_15))) _ _ ls hP hD hS (lv_sub hl [0, 1, 2, 3, 4, 5, 6, 7] rfl)
            · refine lv_iconst (v := 4) hx hb dX8_roomOn_140 (by decide) ?_
              refine lv_goto (tgt := 145) hx hb dX8_roomOn_141 (by decide) ?_
              exact J_58 4 (if_neg c_15).symm (eS.trans (cg1 (sX8_roomOn_j145 jb f i x_2 x_5 x_8 x_11 x_14) (if_neg c_15))) _ _ ls hP hD hS (lv_sub hl [0, 1, 2, 3, 4, 5, 6, 7] rfl)
          refine lv_if_eq (tgt := 111) hx hb dX8_roomOn_93 (by decide) (fun c_12 => ?_) (fun c_12 => ?_)
          · refine lv_iload hx hb dX8_roomOn_111 (lv_at hl 0 rfl) ?_
            refine lv_if_eq (tgt := 121) hx hb dX8_roomOn_113 (by decide) (fun c_13 => ?_) (fun c_13 => ?_)
            · refine lv_iconst (v := 1) hx hb dX8_roomOn_121 (by decide) ?_
              exact J_57 1 ((if_pos c_12).trans (if_pos c_13)).symm (eS.trans (cg1 (sX8_roomOn_j122 jb f i x_2 x_5 x_8 x_11) ((if_pos c_12).trans (if_pos c_13)))) _ _ ls hP hD hS (lv_sub hl [0, 1, 2, 3, 4, 5, 6] rfl)
            · refine lv_bipush (v := 6) hx hb dX8_roomOn_116 (by decide) ?_
              refine lv_goto (tgt := 122) hx hb dX8_roomOn_118 (by decide) ?_
              exact J_57 6 ((if_pos c_12).trans (if_neg c_13)).symm (eS.trans (cg1 (sX8_roomOn_j122 jb f i x_2 x_5 x_8 x_11) ((if_pos c_12).trans (if_neg c_13)))) _ _ ls hP hD hS (lv_sub hl [0, 1, 2, 3, 4, 5, 6] rfl)
          · refine lv_aload_n hx hb dX8_roomOn_96 rfl (lv_at hl 5 rfl) ?_
            refine lv_iload_n hx hb dX8_roomOn_97 rfl (lv_at hl 6 rfl) ?_
            refine lv_iconst (v := 5) hx hb dX8_roomOn_98 (by decide) ?_
            refine k_goI (k_runS (rest := []) (As := [.ref ra, .int (nI i), .int 5]) hx hb hml hown hts hK hP hD hS hA hE hl.1 (c_X8_of l G kk ra f i 5 (by omega)) sl_X8_44 ⟨Nat.le_of_ble_eq_true rfl, Nat.le_of_ble_eq_true rfl, rfl, rfl⟩ [2] rfl rfl ⟨Nat.zero_le _, Nat.zero_le _⟩ rfl (Nat.le_of_ble_eq_true rfl) dX8_roomOn_99) hP hD hS hA [2] rfl ads1 (fun H locs hP hD hS => ?_)
            replace hP : va_P G vwCl ([(h, .inr (8, moF b q)), ((b 7), .inl (kk 0, 6, .inl jb)), (ra, .inl (kk 0, 64, .inl f))]) H := hP
            replace hD : va_D A ([(h, .inr (8, moF b q)), ((b 7), .inl (kk 0, 6, .inl jb)), (ra, .inl (kk 0, 64, .inl f))]) := hD
            refine lv_bipush (v := 20) hx hb dX8_roomOn_102 (by decide) ?_
            refine lv_idiv hx hb dX8_roomOn_104 (by decide) ?_
            refine lv_bipush (v := 8) hx hb dX8_roomOn_105 (by decide) ?_
            refine lv_isub hx hb dX8_roomOn_107 ?_
            refine lv_goto (tgt := 122) hx hb dX8_roomOn_108 (by decide) ?_
            exact J_57 (((sX8_of f i 5) / 20) - 8) (if_neg c_12).symm (eS.trans (cg1 (sX8_roomOn_j122 jb f i x_2 x_5 x_8 x_11) (if_neg c_12))) _ _ ls hP hD hS (lv_sub hl [0, 1, 2, 3, 4, 5, 6] rfl)
        refine lv_if_ne (tgt := 84) hx hb dX8_roomOn_72 (by decide) (fun c_9 => ?_) (fun c_9 => ?_)
        · refine lv_iconst (v := 1) hx hb dX8_roomOn_84 (by decide) ?_
          refine lv_goto (tgt := 89) hx hb dX8_roomOn_85 (by decide) ?_
          exact J_56 1 (if_neg c_9).symm (eS.trans (cg1 (sX8_roomOn_j89 jb f i x_2 x_5 x_8) (if_neg c_9))) _ _ ls hP hD hS (lv_sub hl [0, 1, 2, 3, 4, 5] rfl)
        · refine lv_aload_n hx hb dX8_roomOn_75 rfl (lv_at hl 3 rfl) ?_
          refine r_get (v := .ref (b 7)) hx hb hts hown hK hP fl_X8_29 0 rfl rfl dX8_roomOn_76 ?_
          refine lv_iload_n hx hb dX8_roomOn_79 rfl (lv_at hl 5 rfl) ?_
          refine r_iald hx hb hK hP 1 rfl i rfl (by omega) (by decide) dX8_roomOn_80 ?_
          refine lv_if_ne (tgt := 88) hx hb dX8_roomOn_81 (by decide) (fun c_10 => ?_) (fun c_10 => ?_)
          · refine lv_iconst (v := 0) hx hb dX8_roomOn_88 (by decide) ?_
            exact J_56 0 ((if_pos c_9).trans (if_neg c_10)).symm (eS.trans (cg1 (sX8_roomOn_j89 jb f i x_2 x_5 x_8) ((if_pos c_9).trans (if_neg c_10)))) _ _ ls hP hD hS (lv_sub hl [0, 1, 2, 3, 4, 5] rfl)
          · refine lv_iconst (v := 1) hx hb dX8_roomOn_84 (by decide) ?_
            refine lv_goto (tgt := 89) hx hb dX8_roomOn_85 (by decide) ?_
            exact J_56 1 ((if_pos c_9).trans (if_pos c_10)).symm (eS.trans (cg1 (sX8_roomOn_j89 jb f i x_2 x_5 x_8) ((if_pos c_9).trans (if_pos c_10)))) _ _ ls hP hD hS (lv_sub hl [0, 1, 2, 3, 4, 5] rfl)
      refine lv_icmp_eq (tgt := 63) hx hb dX8_roomOn_50 (by decide) (fun c_6 => ?_) (fun c_6 => ?_)
      · refine lv_iconst (v := 1) hx hb dX8_roomOn_63 (by decide) ?_
        refine lv_goto (tgt := 68) hx hb dX8_roomOn_64 (by decide) ?_
        exact J_55 1 (if_pos c_6).symm (eS.trans (cg1 (sX8_roomOn_j68 jb f i x_2 x_5) (if_pos c_6))) _ _ ls hP hD hS (lv_sub hl [0, 1, 2, 3, 4] rfl)
      · refine lv_aload_n hx hb dX8_roomOn_53 rfl (lv_at hl 2 rfl) ?_
        refine r_get (v := .ref (b 7)) hx hb hts hown hK hP fl_X8_29 0 rfl rfl dX8_roomOn_54 ?_
        refine lv_iload_n hx hb dX8_roomOn_57 rfl (lv_at hl 4 rfl) ?_
        refine r_iald hx hb hK hP 1 rfl i rfl (by omega) (by decide) dX8_roomOn_58 ?_
        refine lv_iconst (v := 2) hx hb dX8_roomOn_59 (by decide) ?_
        refine lv_icmp_ne (tgt := 67) hx hb dX8_roomOn_60 (by decide) (fun c_7 => ?_) (fun c_7 => ?_)
        · refine lv_iconst (v := 0) hx hb dX8_roomOn_67 (by decide) ?_
          exact J_55 0 ((if_neg c_6).trans (if_neg c_7)).symm (eS.trans (cg1 (sX8_roomOn_j68 jb f i x_2 x_5) ((if_neg c_6).trans (if_neg c_7)))) _ _ ls hP hD hS (lv_sub hl [0, 1, 2, 3, 4] rfl)
        · refine lv_iconst (v := 1) hx hb dX8_roomOn_63 (by decide) ?_
          refine lv_goto (tgt := 68) hx hb dX8_roomOn_64 (by decide) ?_
          exact J_55 1 ((if_neg c_6).trans (if_pos c_7)).symm (eS.trans (cg1 (sX8_roomOn_j68 jb f i x_2 x_5) ((if_neg c_6).trans (if_pos c_7)))) _ _ ls hP hD hS (lv_sub hl [0, 1, 2, 3, 4] rfl)
    refine lv_icmp_eq (tgt := 36) hx hb dX8_roomOn_23 (by decide) (fun c_3 => ?_) (fun c_3 => ?_)
    · refine lv_iconst (v := 1) hx hb dX8_roomOn_36 (by decide) ?_
      refine lv_goto (tgt := 41) hx hb dX8_roomOn_37 (by decide) ?_
      exact J_54 1 (if_pos c_3).symm (eS.trans (cg1 (sX8_roomOn_j41 jb f i x_2) (if_pos c_3))) _ _ ls hP hD hS (lv_sub hl [0, 1, 2, 3] rfl)
    · refine lv_aload_n hx hb dX8_roomOn_26 rfl (lv_at hl 1 rfl) ?_
      refine r_get (v := .ref (b 7)) hx hb hts hown hK hP fl_X8_29 0 rfl rfl dX8_roomOn_27 ?_
      refine lv_iload_n hx hb dX8_roomOn_30 rfl (lv_at hl 3 rfl) ?_
      refine r_iald hx hb hK hP 1 rfl i rfl (by omega) (by decide) dX8_roomOn_31 ?_
      refine lv_iconst (v := 1) hx hb dX8_roomOn_32 (by decide) ?_
      refine lv_icmp_ne (tgt := 40) hx hb dX8_roomOn_33 (by decide) (fun c_4 => ?_) (fun c_4 => ?_)
      · refine lv_iconst (v := 0) hx hb dX8_roomOn_40 (by decide) ?_
        exact J_54 0 ((if_neg c_3).trans (if_neg c_4)).symm (eS.trans (cg1 (sX8_roomOn_j41 jb f i x_2) ((if_neg c_3).trans (if_neg c_4)))) _ _ ls hP hD hS (lv_sub hl [0, 1, 2, 3] rfl)
      · refine lv_iconst (v := 1) hx hb dX8_roomOn_36 (by decide) ?_
        refine lv_goto (tgt := 41) hx hb dX8_roomOn_37 (by decide) ?_
        exact J_54 1 ((if_neg c_3).trans (if_pos c_4)).symm (eS.trans (cg1 (sX8_roomOn_j41 jb f i x_2) ((if_neg c_3).trans (if_pos c_4)))) _ _ ls hP hD hS (lv_sub hl [0, 1, 2, 3] rfl)
  refine lv_icmp_ne (tgt := 14) hx hb dX8_roomOn_7 (by decide) (fun c_1 => ?_) (fun c_1 => ?_)
  · refine lv_iconst (v := 0) hx hb dX8_roomOn_14 (by decide) ?_
    exact J_53 0 (if_neg c_1).symm (eS.trans (cg1 (sX8_roomOn_j15 jb f i) (if_neg c_1))) _ _ ls hP hD hS (lv_sub hl [0, 1, 2] rfl)
  · refine lv_iconst (v := 1) hx hb dX8_roomOn_10 (by decide) ?_
    refine lv_goto (tgt := 15) hx hb dX8_roomOn_11 (by decide) ?_
    exact J_53 1 (if_pos c_1).symm (eS.trans (cg1 (sX8_roomOn_j15 jb f i) (if_pos c_1))) _ _ ls hP hD hS (lv_sub hl [0, 1, 2] rfl)
