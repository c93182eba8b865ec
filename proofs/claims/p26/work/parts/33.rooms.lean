/-- the class's object: reader, fresh, present, trial, memory, slot0, slot1 -/
def mrG (ad : Nat → Nat → Nat) : List Value := [.ref (ad 1 0), .ref (ad 2 0), .ref (ad 3 0), .ref (ad 4 0), .ref (ad 5 0), .ref (ad 6 0), .ref (ad 7 0)]
def sX7_spare (g : Nat → Int32) (u : Nat → Int32) (rv : Nat → Nat → Int32) : Int32 :=
  (sX5_spareKilowatts g u)
set_option maxRecDepth 100000 in
set_option maxHeartbeats 4000000 in
theorem c_X7_spare (l : Launch) (G : va_G) (kk : Nat → ClassId) (h : Nat) (ad : Nat → Nat → Nat) (g : Nat → Int32) (u : Nat → Int32) (rv : Nat → Nat → Int32)  : CC l yX7_spare cX7_spare 1 (some .int) (rmO 2 44) [.ref h] G kk ([(h, .inr (7, mrG ad))] ++ (stW kk (ad 3) g u rv)) (QI G kk ([(h, .inr (7, mrG ad))] ++ (stW kk (ad 3) g u rv)) (sX7_spare g u rv)) := by
  refine cc_start (by decide +kernel) (Nat.le_of_ble_eq_true rfl) ?_
  intro p e s m below meth c A ls hx hb hr hml hown hts hlocks hA hE hK hP hD hS hl
  have hown : s.vm.findClass RX7 = some m.cls := hown
  have hl : lv_has ls 1 [(0, .ref h)] := hl
  have eS : sX7_spare g u rv = sX7_spare g u rv := rfl
  refine lv_aload_n hx hb dX7_spare_0 rfl (lv_at hl 0 rfl) ?_
  refine r_get (v := .ref ((ad 3) 0)) hx hb hts hown hK hP fl_X7_23 0 rfl rfl dX7_spare_1 ?_
  refine k_goI (k_runV (rest := []) (As := []) hx hb hml hown hts hK hP hD hS hA hE hl.1 (c_X5_spareKilowatts l G kk ((ad 3) 0) ((ad 3) 1) ((ad 3) 2) g u ) vl_X7_222 rfl rfl rfl ⟨Nat.le_of_ble_eq_true rfl, Nat.le_of_ble_eq_true rfl, rfl, rfl⟩ [1, 2] rfl rfl ⟨Nat.zero_le _, Nat.zero_le _⟩ rfl (Nat.le_of_ble_eq_true rfl) dX7_spare_4) hP hD hS hA [1, 2] rfl ads2 (fun H locs hP hD hS => ?_)
  replace hP : va_P G vwCl ([(h, .inr (7, mrG ad))] ++ (stW kk (ad 3) g u rv)) H := hP
  replace hD : va_D A ([(h, .inr (7, mrG ad))] ++ (stW kk (ad 3) g u rv)) := hD
  exact fin_i hx hb hr hlocks hK hP hD hS eS dX7_spare_7
