/-- the class's object: reader, fresh, present, trial, memory, slot0, slot1 -/
def mrG (ad : Nat → Nat → Nat) : List Value := [.ref (ad 1 0), .ref (ad 2 0), .ref (ad 3 0), .ref (ad 4 0), .ref (ad 5 0), .ref (ad 6 0), .ref (ad 7 0)]
def sX7_clearText_z_1 (tq : Nat → Int32) (z_1 : Int32 × (Nat → Int32)) : Int32 × (Nat → Int32) :=
  (z_1.1, z_1.2)
def sX7_clearText (tq : Nat → Int32) : Int32 × (Nat → Int32) :=
  (sX7_clearText_z_1 tq (sX6_empty tq))
set_option maxRecDepth 100000 in
set_option maxHeartbeats 4000000 in
theorem c_X7_clearText (l : Launch) (G : va_G) (kk : Nat → ClassId) (h : Nat) (ad : Nat → Nat → Nat) (t : Nat) (sa : Nat) (q : Nat → Int32) (tq : Nat → Int32) (sg : Nat → Int32)  : CC l yX7_clearText cX7_clearText 1 (some .int) (rmO 1 21) [.ref h] G kk ([(h, .inr (7, mrG ad)), (((ad 1) 0), .inr (1, rdF t q)), (t, .inr (6, txF sa tq)), (sa, .inl (kk 1, 120, .inl sg))]) (QI G kk ([(h, .inr (7, mrG ad)), (((ad 1) 0), .inr (1, rdF t q)), (t, .inr (6, txF sa ((sX7_clearText tq).2))), (sa, .inl (kk 1, 120, .inl sg))]) ((sX7_clearText tq).1)) := by
  refine cc_start (by decide +kernel) (Nat.le_of_ble_eq_true rfl) ?_
  intro p e s m below meth c A ls hx hb hr hml hown hts hlocks hA hE hK hP hD hS hl
  have hown : s.vm.findClass RX7 = some m.cls := hown
  have hl : lv_has ls 1 [(0, .ref h)] := hl
  have eS : sX7_clearText tq = sX7_clearText tq := rfl
  refine lv_aload_n hx hb dX7_clearText_0 rfl (lv_at hl 0 rfl) ?_
  refine r_get (v := .ref ((ad 1) 0)) hx hb hts hown hK hP fl_X7_10 0 rfl rfl dX7_clearText_1 ?_
  refine r_getN (v := .ref t) hE hx hb hts hown hK hP fn_X7_53 1 rfl rfl dX7_clearText_4 ?_
  refine k_goI (k_runV (rest := []) (As := []) hx hb hml hown hts hK hP hD hS hA hE hl.1 (c_X6_empty l G kk t sa tq ) vl_X7_72 rfl rfl rfl ⟨Nat.le_of_ble_eq_true rfl, Nat.le_of_ble_eq_true rfl, rfl, rfl⟩ [2] rfl rfl ⟨Nat.zero_le _, Nat.zero_le _⟩ rfl (Nat.le_of_ble_eq_true rfl) dX7_clearText_7) hP hD hS hA [2] rfl ads1 (fun H locs hP hD hS => ?_)
  replace hP : va_P G vwCl ([(h, .inr (7, mrG ad)), (((ad 1) 0), .inr (1, rdF t q)), (t, .inr (6, txF sa ((sX6_empty tq).2))), (sa, .inl (kk 1, 120, .inl sg))]) H := hP
  replace hD : va_D A ([(h, .inr (7, mrG ad)), (((ad 1) 0), .inr (1, rdF t q)), (t, .inr (6, txF sa ((sX6_empty tq).2))), (sa, .inl (kk 1, 120, .inl sg))]) := hD
  have eS : sX7_clearText tq = sX7_clearText_z_1 tq (sX6_empty tq) := eS
  generalize sX6_empty tq = z_1 at hP hD eS ⊢
  exact fin_i hx hb hr hlocks hK (vP_eq (congrArg (fun z : Int32 × (Nat → Int32) => ([(h, .inr (7, mrG ad)), (((ad 1) 0), .inr (1, rdF t q)), (t, .inr (6, txF sa z.2)), (sa, .inl (kk 1, 120, .inl sg))] : va_W)) eS.symm) hP) (vD_eq (congrArg (fun z : Int32 × (Nat → Int32) => ([(h, .inr (7, mrG ad)), (((ad 1) 0), .inr (1, rdF t q)), (t, .inr (6, txF sa z.2)), (sa, .inl (kk 1, 120, .inl sg))] : va_W)) eS.symm) hD) hS ((congrArg (fun z : Int32 × (Nat → Int32) => z.1) eS).trans rfl) dX7_clearText_10
def sX7_errorPosition_z_1 (q : Nat → Int32) (tq : Nat → Int32) (sg : Nat → Int32) (z_1 : Int32 × (Nat → Int32)) : Int32 × (Nat → Int32) :=
  (z_1.1, z_1.2)
def sX7_errorPosition (q : Nat → Int32) (tq : Nat → Int32) (sg : Nat → Int32) : Int32 × (Nat → Int32) :=
  (sX7_errorPosition_z_1 q tq sg (sX1_firstError q tq sg))
set_option maxRecDepth 100000 in
set_option maxHeartbeats 4000000 in
theorem c_X7_errorPosition (l : Launch) (G : va_G) (kk : Nat → ClassId) (h : Nat) (ad : Nat → Nat → Nat) (t : Nat) (sa : Nat) (q : Nat → Int32) (tq : Nat → Int32) (sg : Nat → Int32)  : CC l yX7_errorPosition cX7_errorPosition 1 (some .int) (rmO 5 116) [.ref h] G kk ([(h, .inr (7, mrG ad)), (((ad 1) 0), .inr (1, rdF t q)), (t, .inr (6, txF sa tq)), (sa, .inl (kk 1, 120, .inl sg))]) (QI G kk ([(h, .inr (7, mrG ad)), (((ad 1) 0), .inr (1, rdF t ((sX7_errorPosition q tq sg).2))), (t, .inr (6, txF sa tq)), (sa, .inl (kk 1, 120, .inl sg))]) ((sX7_errorPosition q tq sg).1)) := by
  refine cc_start (by decide +kernel) (Nat.le_of_ble_eq_true rfl) ?_
  intro p e s m below meth c A ls hx hb hr hml hown hts hlocks hA hE hK hP hD hS hl
  have hown : s.vm.findClass RX7 = some m.cls := hown
  have hl : lv_has ls 1 [(0, .ref h)] := hl
  have eS : sX7_errorPosition q tq sg = sX7_errorPosition q tq sg := rfl
  refine lv_aload_n hx hb dX7_errorPosition_0 rfl (lv_at hl 0 rfl) ?_
  refine r_get (v := .ref ((ad 1) 0)) hx hb hts hown hK hP fl_X7_10 0 rfl rfl dX7_errorPosition_1 ?_
  refine k_goI (k_runV (rest := []) (As := []) hx hb hml hown hts hK hP hD hS hA hE hl.1 (c_X1_firstError l G kk ((ad 1) 0) t sa q tq sg ) vl_X7_76 rfl rfl rfl ⟨Nat.le_of_ble_eq_true rfl, Nat.le_of_ble_eq_true rfl, rfl, rfl⟩ [1, 2, 3] rfl rfl ⟨Nat.zero_le _, Nat.zero_le _⟩ rfl (Nat.le_of_ble_eq_true rfl) dX7_errorPosition_4) hP hD hS hA [1, 2, 3] rfl ads3 (fun H locs hP hD hS => ?_)
  replace hP : va_P G vwCl ([(h, .inr (7, mrG ad)), (((ad 1) 0), .inr (1, rdF t ((sX1_firstError q tq sg).2))), (t, .inr (6, txF sa tq)), (sa, .inl (kk 1, 120, .inl sg))]) H := hP
  replace hD : va_D A ([(h, .inr (7, mrG ad)), (((ad 1) 0), .inr (1, rdF t ((sX1_firstError q tq sg).2))), (t, .inr (6, txF sa tq)), (sa, .inl (kk 1, 120, .inl sg))]) := hD
  have eS : sX7_errorPosition q tq sg = sX7_errorPosition_z_1 q tq sg (sX1_firstError q tq sg) := eS
  generalize sX1_firstError q tq sg = z_1 at hP hD eS ⊢
  exact fin_i hx hb hr hlocks hK (vP_eq (congrArg (fun z : Int32 × (Nat → Int32) => ([(h, .inr (7, mrG ad)), (((ad 1) 0), .inr (1, rdF t z.2)), (t, .inr (6, txF sa tq)), (sa, .inl (kk 1, 120, .inl sg))] : va_W)) eS.symm) hP) (vD_eq (congrArg (fun z : Int32 × (Nat → Int32) => ([(h, .inr (7, mrG ad)), (((ad 1) 0), .inr (1, rdF t z.2)), (t, .inr (6, txF sa tq)), (sa, .inl (kk 1, 120, .inl sg))] : va_W)) eS.symm) hD) hS ((congrArg (fun z : Int32 × (Nat → Int32) => z.1) eS).trans rfl) dX7_errorPosition_7
def sX7_spare (g : Nat → Int32) (u : Nat → Int32) (rv : Nat → Nat → Int32) : Int32 :=
  (sX5_spareKilowatts g u)
set_option maxRecDepth 100000 in
set_option maxHeartbeats 4000000 in
theorem c_X7_spare (l : Launch) (G : va_G) (kk : Nat → ClassId) (h : Nat) (ad : Nat → Nat → Nat) (g : Nat → Int32) (u : Nat → Int32) (rv : Nat → Nat → Int32)  : CC l yX7_spare cX7_spare 1 (some .int) (rmO 2 44) [.ref h] G kk ([(h, .inr (7, mrG ad))] ++ (stW kk (ad 3) g u rv)) (QI G kk ([(h, .inr (7, mrG ad))] ++ (stW kk (ad 3) g u rv)) (sX7_spare g u rv)) := by
  refine cc_start (by decide +kernel) (Nat.le_of_ble_eq_true rfl) ?_
  intro p e s m below meth c A ls hx hb hr hml hown hts hlocks hA hE hK hP hD hS hl
  have hown : s.vm.findClass RX7 = some m.cls := hown
  have hl : lv_has ls 1 [(0, .ref h)] := hl
  have eS : sX7_spare g u rv = sX7_spare g u rv := rfl
  refine lv_aload_n hx hb dX7_spare_0 rfl (lv_at hl 0 rfl) ?_
  refine r_get (v := .ref ((ad 3) 0)) hx hb hts hown hK hP fl_X7_23 0 rfl rfl dX7_spare_1 ?_
  refine k_goI (k_runV (rest := []) (As := []) hx hb hml hown hts hK hP hD hS hA hE hl.1 (c_X5_spareKilowatts l G kk ((ad 3) 0) ((ad 3) 1) ((ad 3) 2) g u ) vl_X7_222 rfl rfl rfl ⟨Nat.le_of_ble_eq_true rfl, Nat.le_of_ble_eq_true rfl, rfl, rfl⟩ [1, 2] rfl rfl ⟨Nat.zero_le _, Nat.zero_le _⟩ rfl (Nat.le_of_ble_eq_true rfl) dX7_spare_4) hP hD hS hA [1, 2] rfl ads2 (fun H locs hP hD hS => ?_)
  replace hP : va_P G vwCl ([(h, .inr (7, mrG ad))] ++ (stW kk (ad 3) g u rv)) H := hP
  replace hD : va_D A ([(h, .inr (7, mrG ad))] ++ (stW kk (ad 3) g u rv)) := hD
  exact fin_i hx hb hr hlocks hK hP hD hS eS dX7_spare_7
