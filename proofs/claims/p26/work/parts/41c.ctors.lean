def ad7 (r : Nat) (a2 a3 a4 : Nat → Nat) (mm s0 s1 : Nat) : Nat → Nat → Nat
  | 1 => fun _ => r
  | 2 => a2
  | 3 => a3
  | 4 => a4
  | 5 => fun _ => mm
  | 6 => fun _ => s0
  | _ => fun _ => s1
set_option maxRecDepth 100000 in
set_option maxHeartbeats 4000000 in
theorem c_X7_init (l : Launch) (G : va_G) (kk : Nat → ClassId) (h : Nat)  : CI l yX7_init cX7_init 1 (rmI 4 120 178 1726) [.ref h] G kk [(h, .inr (7, [.null, .null, .null, .null, .null, .null, .null]))] 178 1726 (fun A t => ∃ (ad : Nat → Nat → Nat) (tx sa ra : Nat) (ma : Nat → Nat → Nat) (b6 b7 : Nat → Nat), mB G kk ([(h, .inr (7, mrG ad)), ((ad 1) 0, .inr (1, rdF tx gz)), (tx, .inr (6, txF sa gz)), (sa, .inl (kk 1, 120, .inl gz))] ++ (stW kk (ad 2) gz uz rz ++ (stW kk (ad 3) gz uz rz ++ (stW kk (ad 4) gz uz rz ++ ([((ad 5) 0, .inr (0, mmF ra gz)), (ra, .inl (kk 4, 14, .inr (.inr (.inr (.inr (rowF ma (fun j => j)))))))] ++ (stsF kk ma (fun _ => gz) (fun _ => uz) (fun _ => rz) 0 14 ++ ([((ad 6) 0, .inr (4, slF (b6 0) gz))] ++ (stW kk b6 gz uz rz ++ ([((ad 7) 0, .inr (4, slF (b7 0) gz))] ++ (stW kk b7 gz uz rz)))))))))) A t) := by
  refine ci_start (by decide +kernel) (Nat.le_of_ble_eq_true rfl) rfl ?_
  intro p e s m below meth c A ls hx hb hr hml hown hts hlocks hA hE hK hP hD hS hl hin
  have hown : s.vm.findClass RX7 = some m.cls := hown
  have hl : lv_has ls 1 [(0, .ref h)] := hl
  refine lv_aload_n hx hb dX7_init_0 rfl (lv_at hl 0 rfl) ?_
  refine r_obj hx hb hml hl.1 hown hts ol_X7_1 dX7_init_1 (Nat.le_of_ble_eq_true rfl) (Nat.le_of_ble_eq_true rfl) ?_
  refine lv_aload_n hx hb dX7_init_4 rfl (lv_at hl 0 rfl) ?_
  refine r_new (ci := 1) (fs := [.null, .int 0, .int 0, .int 0, .int 0, .int 0, .int 0]) hx hb hts in_X1 tyX1_ok hown nl_X7_7 hK hP hD hS hA rfl (fun j hj => by rcases (show j = 0 ∨ j = 1 ∨ j = 2 ∨ j = 3 ∨ j = 4 ∨ j = 5 ∨ j = 6 by omega) with rfl | rfl | rfl | rfl | rfl | rfl | rfl <;> rfl) (Nat.le_of_ble_eq_true rfl) (Nat.le_of_ble_eq_true rfl) dX7_init_5 (fun q1 H hP hD hS => ?_)
  refine W.widen (k := 1) (n := 7) (Nat.le_refl _) (Nat.le_refl _) ?_
  refine lv_dup hx hb dX7_init_8 rfl ?_
  refine k_ctor (rest := [.ref q1, .ref h]) (As := []) hx hb hml hown hts hK hP hD hS hA hE hl.1 (c_X1_init l G kk q1) il_X7_9 ⟨Nat.le_of_ble_eq_true rfl, Nat.le_of_ble_eq_true rfl, rfl, rfl⟩ 1 rfl ⟨Nat.le_of_ble_eq_true rfl, Nat.le_of_ble_eq_true rfl⟩ rfl (Nat.le_of_ble_eq_true rfl) dX7_init_9 (fun H locs t ht hB hj hS => ?_)
  obtain ⟨t2, sa2, hP1, hK1, hD1⟩ := hB
  rw [ht] at hP1
  obtain ⟨hP, hD⟩ := hj _ hP1 hD1
  replace hP : va_P G vwCl ([(h, .inr (7, [.null, .null, .null, .null, .null, .null, .null])), (q1, .inr (1, rdF t2 gz)), (t2, .inr (6, txF sa2 gz)), (sa2, .inl (kk 1, 120, .inl gz))]) H := hP
  replace hD : va_D A ([(h, .inr (7, [.null, .null, .null, .null, .null, .null, .null])), (q1, .inr (1, rdF t2 gz)), (t2, .inr (6, txF sa2 gz)), (sa2, .inl (kk 1, 120, .inl gz))]) := hD
  refine W.widen (k := 3) (n := 129) (Nat.le_refl _) (Nat.le_refl _) ?_
  refine r_putF (v := .ref q1) hx hb hts hown hK hP hD hS ff_X7_10 hin 0 rfl rfl rfl (Nat.le_of_ble_eq_true rfl) dX7_init_12 (fun H locs hP hD hS => ?_)
  replace hP : va_P G vwCl ([(h, .inr (7, [.ref q1, .null, .null, .null, .null, .null, .null])), (q1, .inr (1, rdF t2 gz)), (t2, .inr (6, txF sa2 gz)), (sa2, .inl (kk 1, 120, .inl gz))]) H := hP
  replace hD : va_D A ([(h, .inr (7, [.ref q1, .null, .null, .null, .null, .null, .null])), (q1, .inr (1, rdF t2 gz)), (t2, .inr (6, txF sa2 gz)), (sa2, .inl (kk 1, 120, .inl gz))]) := hD
  refine lv_aload_n hx hb dX7_init_15 rfl (lv_at hl 0 rfl) ?_
  refine r_new (ci := 5) (fs := [.null, .null, .int 0, .int 0, .int 0, .int 0, .int 0, .int 0, .int 0, .int 0, .int 0]) hx hb hts in_X5 tyX5_ok hown nl_X7_16 hK hP hD hS hA rfl (fun j hj => by rcases (show j = 0 ∨ j = 1 ∨ j = 2 ∨ j = 3 ∨ j = 4 ∨ j = 5 ∨ j = 6 ∨ j = 7 ∨ j = 8 ∨ j = 9 ∨ j = 10 by omega) with rfl | rfl | rfl | rfl | rfl | rfl | rfl | rfl | rfl | rfl | rfl <;> rfl) (Nat.le_of_ble_eq_true rfl) (Nat.le_of_ble_eq_true rfl) dX7_init_16 (fun q3 H hP hD hS => ?_)
  refine W.widen (k := 4) (n := 140) (Nat.le_refl _) (Nat.le_refl _) ?_
  refine lv_dup hx hb dX7_init_19 rfl ?_
  refine k_ctor (rest := [.ref q3, .ref h]) (As := []) hx hb hml hown hts hK hP hD hS hA hE hl.1 (c_X5_init l G kk q3) il_X7_18 ⟨Nat.le_of_ble_eq_true rfl, Nat.le_of_ble_eq_true rfl, rfl, rfl⟩ 4 rfl ⟨Nat.le_of_ble_eq_true rfl, Nat.le_of_ble_eq_true rfl⟩ rfl (Nat.le_of_ble_eq_true rfl) dX7_init_20 (fun H locs t ht hB hj hS => ?_)
  obtain ⟨a4, ha4, hP1, hK1, hD1⟩ := hB
  rw [ht] at hP1
  subst ha4
  obtain ⟨hP, hD⟩ := hj _ hP1 hD1
  replace hP : va_P G vwCl ([(h, .inr (7, [.ref q1, .null, .null, .null, .null, .null, .null])), (q1, .inr (1, rdF t2 gz)), (t2, .inr (6, txF sa2 gz)), (sa2, .inl (kk 1, 120, .inl gz))] ++ (stW kk a4 gz uz rz)) H := vP_eq2 hP (by simp only [List.append_assoc, List.cons_append, List.nil_append])
  replace hD : va_D A ([(h, .inr (7, [.ref q1, .null, .null, .null, .null, .null, .null])), (q1, .inr (1, rdF t2 gz)), (t2, .inr (6, txF sa2 gz)), (sa2, .inl (kk 1, 120, .inl gz))] ++ (stW kk a4 gz uz rz)) := vD_eq2 hD (by simp only [List.append_assoc, List.cons_append, List.nil_append])
  refine W.widen (k := 12) (n := 212) (Nat.le_refl _) (Nat.le_refl _) ?_
  refine r_putF (v := .ref (a4 0)) hx hb hts hown hK hP hD hS ff_X7_19 hin 0 rfl rfl rfl (Nat.le_of_ble_eq_true rfl) dX7_init_23 (fun H locs hP hD hS => ?_)
  replace hP : va_P G vwCl ([(h, .inr (7, [.ref q1, .ref (a4 0), .null, .null, .null, .null, .null])), (q1, .inr (1, rdF t2 gz)), (t2, .inr (6, txF sa2 gz)), (sa2, .inl (kk 1, 120, .inl gz))] ++ (stW kk a4 gz uz rz)) H := hP
  replace hD : va_D A ([(h, .inr (7, [.ref q1, .ref (a4 0), .null, .null, .null, .null, .null])), (q1, .inr (1, rdF t2 gz)), (t2, .inr (6, txF sa2 gz)), (sa2, .inl (kk 1, 120, .inl gz))] ++ (stW kk a4 gz uz rz)) := hD
  refine lv_aload_n hx hb dX7_init_26 rfl (lv_at hl 0 rfl) ?_
  refine r_new (ci := 5) (fs := [.null, .null, .int 0, .int 0, .int 0, .int 0, .int 0, .int 0, .int 0, .int 0, .int 0]) hx hb hts in_X5 tyX5_ok hown nl_X7_16 hK hP hD hS hA rfl (fun j hj => by rcases (show j = 0 ∨ j = 1 ∨ j = 2 ∨ j = 3 ∨ j = 4 ∨ j = 5 ∨ j = 6 ∨ j = 7 ∨ j = 8 ∨ j = 9 ∨ j = 10 by omega) with rfl | rfl | rfl | rfl | rfl | rfl | rfl | rfl | rfl | rfl | rfl <;> rfl) (Nat.le_of_ble_eq_true rfl) (Nat.le_of_ble_eq_true rfl) dX7_init_27 (fun q5 H hP hD hS => ?_)
  refine W.widen (k := 13) (n := 223) (Nat.le_refl _) (Nat.le_refl _) ?_
  refine lv_dup hx hb dX7_init_30 rfl ?_
  refine k_ctor (rest := [.ref q5, .ref h]) (As := []) hx hb hml hown hts hK hP hD hS hA hE hl.1 (c_X5_init l G kk q5) il_X7_18 ⟨Nat.le_of_ble_eq_true rfl, Nat.le_of_ble_eq_true rfl, rfl, rfl⟩ 13 (by simp only [List.length_append, List.length_cons, List.length_nil, st_len, sts_len]) ⟨Nat.le_of_ble_eq_true rfl, Nat.le_of_ble_eq_true rfl⟩ rfl (Nat.le_of_ble_eq_true rfl) dX7_init_31 (fun H locs t ht hB hj hS => ?_)
  obtain ⟨a6, ha6, hP1, hK1, hD1⟩ := hB
  rw [ht] at hP1
  subst ha6
  obtain ⟨hP, hD⟩ := hj _ hP1 hD1
  replace hP : va_P G vwCl ([(h, .inr (7, [.ref q1, .ref (a4 0), .null, .null, .null, .null, .null])), (q1, .inr (1, rdF t2 gz)), (t2, .inr (6, txF sa2 gz)), (sa2, .inl (kk 1, 120, .inl gz))] ++ (stW kk a4 gz uz rz ++ (stW kk a6 gz uz rz))) H := vP_eq2 hP (by simp only [List.append_assoc, List.cons_append, List.nil_append])
  replace hD : va_D A ([(h, .inr (7, [.ref q1, .ref (a4 0), .null, .null, .null, .null, .null])), (q1, .inr (1, rdF t2 gz)), (t2, .inr (6, txF sa2 gz)), (sa2, .inl (kk 1, 120, .inl gz))] ++ (stW kk a4 gz uz rz ++ (stW kk a6 gz uz rz))) := vD_eq2 hD (by simp only [List.append_assoc, List.cons_append, List.nil_append])
  refine W.widen (k := 21) (n := 295) (Nat.le_refl _) (Nat.le_refl _) ?_
  refine r_putF (v := .ref (a6 0)) hx hb hts hown hK hP hD hS ff_X7_23 hin 0 rfl rfl rfl (Nat.le_of_ble_eq_true rfl) dX7_init_34 (fun H locs hP hD hS => ?_)
  replace hP : va_P G vwCl ([(h, .inr (7, [.ref q1, .ref (a4 0), .ref (a6 0), .null, .null, .null, .null])), (q1, .inr (1, rdF t2 gz)), (t2, .inr (6, txF sa2 gz)), (sa2, .inl (kk 1, 120, .inl gz))] ++ (stW kk a4 gz uz rz ++ (stW kk a6 gz uz rz))) H := hP
  replace hD : va_D A ([(h, .inr (7, [.ref q1, .ref (a4 0), .ref (a6 0), .null, .null, .null, .null])), (q1, .inr (1, rdF t2 gz)), (t2, .inr (6, txF sa2 gz)), (sa2, .inl (kk 1, 120, .inl gz))] ++ (stW kk a4 gz uz rz ++ (stW kk a6 gz uz rz))) := hD
  refine lv_aload_n hx hb dX7_init_37 rfl (lv_at hl 0 rfl) ?_
  refine r_new (ci := 5) (fs := [.null, .null, .int 0, .int 0, .int 0, .int 0, .int 0, .int 0, .int 0, .int 0, .int 0]) hx hb hts in_X5 tyX5_ok hown nl_X7_16 hK hP hD hS hA rfl (fun j hj => by rcases (show j = 0 ∨ j = 1 ∨ j = 2 ∨ j = 3 ∨ j = 4 ∨ j = 5 ∨ j = 6 ∨ j = 7 ∨ j = 8 ∨ j = 9 ∨ j = 10 by omega) with rfl | rfl | rfl | rfl | rfl | rfl | rfl | rfl | rfl | rfl | rfl <;> rfl) (Nat.le_of_ble_eq_true rfl) (Nat.le_of_ble_eq_true rfl) dX7_init_38 (fun q7 H hP hD hS => ?_)
  refine W.widen (k := 22) (n := 306) (Nat.le_refl _) (Nat.le_refl _) ?_
  refine lv_dup hx hb dX7_init_41 rfl ?_
  refine k_ctor (rest := [.ref q7, .ref h]) (As := []) hx hb hml hown hts hK hP hD hS hA hE hl.1 (c_X5_init l G kk q7) il_X7_18 ⟨Nat.le_of_ble_eq_true rfl, Nat.le_of_ble_eq_true rfl, rfl, rfl⟩ 22 (by simp only [List.length_append, List.length_cons, List.length_nil, st_len, sts_len]) ⟨Nat.le_of_ble_eq_true rfl, Nat.le_of_ble_eq_true rfl⟩ rfl (Nat.le_of_ble_eq_true rfl) dX7_init_42 (fun H locs t ht hB hj hS => ?_)
  obtain ⟨a8, ha8, hP1, hK1, hD1⟩ := hB
  rw [ht] at hP1
  subst ha8
  obtain ⟨hP, hD⟩ := hj _ hP1 hD1
  replace hP : va_P G vwCl ([(h, .inr (7, [.ref q1, .ref (a4 0), .ref (a6 0), .null, .null, .null, .null])), (q1, .inr (1, rdF t2 gz)), (t2, .inr (6, txF sa2 gz)), (sa2, .inl (kk 1, 120, .inl gz))] ++ (stW kk a4 gz uz rz ++ (stW kk a6 gz uz rz ++ (stW kk a8 gz uz rz)))) H := vP_eq2 hP (by simp only [List.append_assoc, List.cons_append, List.nil_append])
  replace hD : va_D A ([(h, .inr (7, [.ref q1, .ref (a4 0), .ref (a6 0), .null, .null, .null, .null])), (q1, .inr (1, rdF t2 gz)), (t2, .inr (6, txF sa2 gz)), (sa2, .inl (kk 1, 120, .inl gz))] ++ (stW kk a4 gz uz rz ++ (stW kk a6 gz uz rz ++ (stW kk a8 gz uz rz)))) := vD_eq2 hD (by simp only [List.append_assoc, List.cons_append, List.nil_append])
  refine W.widen (k := 30) (n := 378) (Nat.le_refl _) (Nat.le_refl _) ?_
  refine r_putF (v := .ref (a8 0)) hx hb hts hown hK hP hD hS ff_X7_26 hin 0 rfl rfl rfl (Nat.le_of_ble_eq_true rfl) dX7_init_45 (fun H locs hP hD hS => ?_)
  replace hP : va_P G vwCl ([(h, .inr (7, [.ref q1, .ref (a4 0), .ref (a6 0), .ref (a8 0), .null, .null, .null])), (q1, .inr (1, rdF t2 gz)), (t2, .inr (6, txF sa2 gz)), (sa2, .inl (kk 1, 120, .inl gz))] ++ (stW kk a4 gz uz rz ++ (stW kk a6 gz uz rz ++ (stW kk a8 gz uz rz)))) H := hP
  replace hD : va_D A ([(h, .inr (7, [.ref q1, .ref (a4 0), .ref (a6 0), .ref (a8 0), .null, .null, .null])), (q1, .inr (1, rdF t2 gz)), (t2, .inr (6, txF sa2 gz)), (sa2, .inl (kk 1, 120, .inl gz))] ++ (stW kk a4 gz uz rz ++ (stW kk a6 gz uz rz ++ (stW kk a8 gz uz rz)))) := hD
  refine lv_aload_n hx hb dX7_init_48 rfl (lv_at hl 0 rfl) ?_
  refine r_new (ci := 0) (fs := [.null, .int 0]) hx hb hts in_X0 tyX0_ok hown nl_X7_29 hK hP hD hS hA rfl (fun j hj => by rcases (show j = 0 ∨ j = 1 by omega) with rfl | rfl <;> rfl) (Nat.le_of_ble_eq_true rfl) (Nat.le_of_ble_eq_true rfl) dX7_init_49 (fun q9 H hP hD hS => ?_)
  refine W.widen (k := 31) (n := 380) (Nat.le_refl _) (Nat.le_refl _) ?_
  refine lv_dup hx hb dX7_init_52 rfl ?_
  refine k_ctor (rest := [.ref q9, .ref h]) (As := []) hx hb hml hown hts hK hP hD hS hA hE hl.1 (c_X0_init l G kk q9) il_X7_31 ⟨Nat.le_of_ble_eq_true rfl, Nat.le_of_ble_eq_true rfl, rfl, rfl⟩ 31 (by simp only [List.length_append, List.length_cons, List.length_nil, st_len, sts_len]) ⟨Nat.le_of_ble_eq_true rfl, Nat.le_of_ble_eq_true rfl⟩ rfl (Nat.le_of_ble_eq_true rfl) dX7_init_53 (fun H locs t ht hB hj hS => ?_)
  obtain ⟨ra10, ma10, hP1, hK1, hD1⟩ := hB
  rw [ht] at hP1
  obtain ⟨hP, hD⟩ := hj _ hP1 hD1
  replace hP : va_P G vwCl ([(h, .inr (7, [.ref q1, .ref (a4 0), .ref (a6 0), .ref (a8 0), .null, .null, .null])), (q1, .inr (1, rdF t2 gz)), (t2, .inr (6, txF sa2 gz)), (sa2, .inl (kk 1, 120, .inl gz))] ++ (stW kk a4 gz uz rz ++ (stW kk a6 gz uz rz ++ (stW kk a8 gz uz rz ++ ([(q9, .inr (0, mmF ra10 gz)), (ra10, .inl (kk 4, 14, .inr (.inr (.inr (.inr (rowF ma10 (fun j => j)))))))] ++ (stsF kk ma10 (fun _ => gz) (fun _ => uz) (fun _ => rz) 0 14)))))) H := vP_eq2 hP (by simp only [List.append_assoc, List.cons_append, List.nil_append])
  replace hD : va_D A ([(h, .inr (7, [.ref q1, .ref (a4 0), .ref (a6 0), .ref (a8 0), .null, .null, .null])), (q1, .inr (1, rdF t2 gz)), (t2, .inr (6, txF sa2 gz)), (sa2, .inl (kk 1, 120, .inl gz))] ++ (stW kk a4 gz uz rz ++ (stW kk a6 gz uz rz ++ (stW kk a8 gz uz rz ++ ([(q9, .inr (0, mmF ra10 gz)), (ra10, .inl (kk 4, 14, .inr (.inr (.inr (.inr (rowF ma10 (fun j => j)))))))] ++ (stsF kk ma10 (fun _ => gz) (fun _ => uz) (fun _ => rz) 0 14)))))) := vD_eq2 hD (by simp only [List.append_assoc, List.cons_append, List.nil_append])
  refine W.widen (k := 158) (n := 1556) (Nat.le_refl _) (Nat.le_refl _) ?_
  refine r_putF (v := .ref q9) hx hb hts hown hK hP hD hS ff_X7_32 hin 0 rfl rfl rfl (Nat.le_of_ble_eq_true rfl) dX7_init_56 (fun H locs hP hD hS => ?_)
  replace hP : va_P G vwCl ([(h, .inr (7, [.ref q1, .ref (a4 0), .ref (a6 0), .ref (a8 0), .ref q9, .null, .null])), (q1, .inr (1, rdF t2 gz)), (t2, .inr (6, txF sa2 gz)), (sa2, .inl (kk 1, 120, .inl gz))] ++ (stW kk a4 gz uz rz ++ (stW kk a6 gz uz rz ++ (stW kk a8 gz uz rz ++ ([(q9, .inr (0, mmF ra10 gz)), (ra10, .inl (kk 4, 14, .inr (.inr (.inr (.inr (rowF ma10 (fun j => j)))))))] ++ (stsF kk ma10 (fun _ => gz) (fun _ => uz) (fun _ => rz) 0 14)))))) H := hP
  replace hD : va_D A ([(h, .inr (7, [.ref q1, .ref (a4 0), .ref (a6 0), .ref (a8 0), .ref q9, .null, .null])), (q1, .inr (1, rdF t2 gz)), (t2, .inr (6, txF sa2 gz)), (sa2, .inl (kk 1, 120, .inl gz))] ++ (stW kk a4 gz uz rz ++ (stW kk a6 gz uz rz ++ (stW kk a8 gz uz rz ++ ([(q9, .inr (0, mmF ra10 gz)), (ra10, .inl (kk 4, 14, .inr (.inr (.inr (.inr (rowF ma10 (fun j => j)))))))] ++ (stsF kk ma10 (fun _ => gz) (fun _ => uz) (fun _ => rz) 0 14)))))) := hD
  refine lv_aload_n hx hb dX7_init_59 rfl (lv_at hl 0 rfl) ?_
  refine r_new (ci := 4) (fs := [.null, .int 0]) hx hb hts in_X4 tyX4_ok hown nl_X7_36 hK hP hD hS hA rfl (fun j hj => by rcases (show j = 0 ∨ j = 1 by omega) with rfl | rfl <;> rfl) (Nat.le_of_ble_eq_true rfl) (Nat.le_of_ble_eq_true rfl) dX7_init_60 (fun q11 H hP hD hS => ?_)
  refine W.widen (k := 159) (n := 1558) (Nat.le_refl _) (Nat.le_refl _) ?_
  refine lv_dup hx hb dX7_init_63 rfl ?_
  refine k_ctor (rest := [.ref q11, .ref h]) (As := []) hx hb hml hown hts hK hP hD hS hA hE hl.1 (c_X4_init l G kk q11) il_X7_38 ⟨Nat.le_of_ble_eq_true rfl, Nat.le_of_ble_eq_true rfl, rfl, rfl⟩ 159 (by simp only [List.length_append, List.length_cons, List.length_nil, st_len, sts_len]) ⟨Nat.le_of_ble_eq_true rfl, Nat.le_of_ble_eq_true rfl⟩ rfl (Nat.le_of_ble_eq_true rfl) dX7_init_64 (fun H locs t ht hB hj hS => ?_)
  obtain ⟨b12, hP1, hK1, hD1⟩ := hB
  rw [ht] at hP1
  obtain ⟨hP, hD⟩ := hj _ hP1 hD1
  replace hP : va_P G vwCl ([(h, .inr (7, [.ref q1, .ref (a4 0), .ref (a6 0), .ref (a8 0), .ref q9, .null, .null])), (q1, .inr (1, rdF t2 gz)), (t2, .inr (6, txF sa2 gz)), (sa2, .inl (kk 1, 120, .inl gz))] ++ (stW kk a4 gz uz rz ++ (stW kk a6 gz uz rz ++ (stW kk a8 gz uz rz ++ ([(q9, .inr (0, mmF ra10 gz)), (ra10, .inl (kk 4, 14, .inr (.inr (.inr (.inr (rowF ma10 (fun j => j)))))))] ++ (stsF kk ma10 (fun _ => gz) (fun _ => uz) (fun _ => rz) 0 14 ++ ([(q11, .inr (4, slF (b12 0) gz))] ++ (stW kk b12 gz uz rz)))))))) H := vP_eq2 hP (by simp only [List.append_assoc, List.cons_append, List.nil_append])
  replace hD : va_D A ([(h, .inr (7, [.ref q1, .ref (a4 0), .ref (a6 0), .ref (a8 0), .ref q9, .null, .null])), (q1, .inr (1, rdF t2 gz)), (t2, .inr (6, txF sa2 gz)), (sa2, .inl (kk 1, 120, .inl gz))] ++ (stW kk a4 gz uz rz ++ (stW kk a6 gz uz rz ++ (stW kk a8 gz uz rz ++ ([(q9, .inr (0, mmF ra10 gz)), (ra10, .inl (kk 4, 14, .inr (.inr (.inr (.inr (rowF ma10 (fun j => j)))))))] ++ (stsF kk ma10 (fun _ => gz) (fun _ => uz) (fun _ => rz) 0 14 ++ ([(q11, .inr (4, slF (b12 0) gz))] ++ (stW kk b12 gz uz rz)))))))) := vD_eq2 hD (by simp only [List.append_assoc, List.cons_append, List.nil_append])
  refine W.widen (k := 168) (n := 1641) (Nat.le_refl _) (Nat.le_refl _) ?_
  refine r_putF (v := .ref q11) hx hb hts hown hK hP hD hS ff_X7_39 hin 0 rfl rfl rfl (Nat.le_of_ble_eq_true rfl) dX7_init_67 (fun H locs hP hD hS => ?_)
  replace hP : va_P G vwCl ([(h, .inr (7, [.ref q1, .ref (a4 0), .ref (a6 0), .ref (a8 0), .ref q9, .ref q11, .null])), (q1, .inr (1, rdF t2 gz)), (t2, .inr (6, txF sa2 gz)), (sa2, .inl (kk 1, 120, .inl gz))] ++ (stW kk a4 gz uz rz ++ (stW kk a6 gz uz rz ++ (stW kk a8 gz uz rz ++ ([(q9, .inr (0, mmF ra10 gz)), (ra10, .inl (kk 4, 14, .inr (.inr (.inr (.inr (rowF ma10 (fun j => j)))))))] ++ (stsF kk ma10 (fun _ => gz) (fun _ => uz) (fun _ => rz) 0 14 ++ ([(q11, .inr (4, slF (b12 0) gz))] ++ (stW kk b12 gz uz rz)))))))) H := hP
  replace hD : va_D A ([(h, .inr (7, [.ref q1, .ref (a4 0), .ref (a6 0), .ref (a8 0), .ref q9, .ref q11, .null])), (q1, .inr (1, rdF t2 gz)), (t2, .inr (6, txF sa2 gz)), (sa2, .inl (kk 1, 120, .inl gz))] ++ (stW kk a4 gz uz rz ++ (stW kk a6 gz uz rz ++ (stW kk a8 gz uz rz ++ ([(q9, .inr (0, mmF ra10 gz)), (ra10, .inl (kk 4, 14, .inr (.inr (.inr (.inr (rowF ma10 (fun j => j)))))))] ++ (stsF kk ma10 (fun _ => gz) (fun _ => uz) (fun _ => rz) 0 14 ++ ([(q11, .inr (4, slF (b12 0) gz))] ++ (stW kk b12 gz uz rz)))))))) := hD
  refine lv_aload_n hx hb dX7_init_70 rfl (lv_at hl 0 rfl) ?_
  refine r_new (ci := 4) (fs := [.null, .int 0]) hx hb hts in_X4 tyX4_ok hown nl_X7_36 hK hP hD hS hA rfl (fun j hj => by rcases (show j = 0 ∨ j = 1 by omega) with rfl | rfl <;> rfl) (Nat.le_of_ble_eq_true rfl) (Nat.le_of_ble_eq_true rfl) dX7_init_71 (fun q13 H hP hD hS => ?_)
  refine W.widen (k := 169) (n := 1643) (Nat.le_refl _) (Nat.le_refl _) ?_
  refine lv_dup hx hb dX7_init_74 rfl ?_
  refine k_ctor (rest := [.ref q13, .ref h]) (As := []) hx hb hml hown hts hK hP hD hS hA hE hl.1 (c_X4_init l G kk q13) il_X7_38 ⟨Nat.le_of_ble_eq_true rfl, Nat.le_of_ble_eq_true rfl, rfl, rfl⟩ 169 (by simp only [List.length_append, List.length_cons, List.length_nil, st_len, sts_len]) ⟨Nat.le_of_ble_eq_true rfl, Nat.le_of_ble_eq_true rfl⟩ rfl (Nat.le_of_ble_eq_true rfl) dX7_init_75 (fun H locs t ht hB hj hS => ?_)
  obtain ⟨b14, hP1, hK1, hD1⟩ := hB
  rw [ht] at hP1
  obtain ⟨hP, hD⟩ := hj _ hP1 hD1
  replace hP : va_P G vwCl ([(h, .inr (7, [.ref q1, .ref (a4 0), .ref (a6 0), .ref (a8 0), .ref q9, .ref q11, .null])), (q1, .inr (1, rdF t2 gz)), (t2, .inr (6, txF sa2 gz)), (sa2, .inl (kk 1, 120, .inl gz))] ++ (stW kk a4 gz uz rz ++ (stW kk a6 gz uz rz ++ (stW kk a8 gz uz rz ++ ([(q9, .inr (0, mmF ra10 gz)), (ra10, .inl (kk 4, 14, .inr (.inr (.inr (.inr (rowF ma10 (fun j => j)))))))] ++ (stsF kk ma10 (fun _ => gz) (fun _ => uz) (fun _ => rz) 0 14 ++ ([(q11, .inr (4, slF (b12 0) gz))] ++ (stW kk b12 gz uz rz ++ ([(q13, .inr (4, slF (b14 0) gz))] ++ (stW kk b14 gz uz rz)))))))))) H := vP_eq2 hP (by simp only [List.append_assoc, List.cons_append, List.nil_append])
  replace hD : va_D A ([(h, .inr (7, [.ref q1, .ref (a4 0), .ref (a6 0), .ref (a8 0), .ref q9, .ref q11, .null])), (q1, .inr (1, rdF t2 gz)), (t2, .inr (6, txF sa2 gz)), (sa2, .inl (kk 1, 120, .inl gz))] ++ (stW kk a4 gz uz rz ++ (stW kk a6 gz uz rz ++ (stW kk a8 gz uz rz ++ ([(q9, .inr (0, mmF ra10 gz)), (ra10, .inl (kk 4, 14, .inr (.inr (.inr (.inr (rowF ma10 (fun j => j)))))))] ++ (stsF kk ma10 (fun _ => gz) (fun _ => uz) (fun _ => rz) 0 14 ++ ([(q11, .inr (4, slF (b12 0) gz))] ++ (stW kk b12 gz uz rz ++ ([(q13, .inr (4, slF (b14 0) gz))] ++ (stW kk b14 gz uz rz)))))))))) := vD_eq2 hD (by simp only [List.append_assoc, List.cons_append, List.nil_append])
  refine W.widen (k := 178) (n := 1726) (Nat.le_refl _) (Nat.le_refl _) ?_
  refine r_putF (v := .ref q13) hx hb hts hown hK hP hD hS ff_X7_43 hin 0 rfl rfl rfl (Nat.le_of_ble_eq_true rfl) dX7_init_78 (fun H locs hP hD hS => ?_)
  replace hP : va_P G vwCl ([(h, .inr (7, [.ref q1, .ref (a4 0), .ref (a6 0), .ref (a8 0), .ref q9, .ref q11, .ref q13])), (q1, .inr (1, rdF t2 gz)), (t2, .inr (6, txF sa2 gz)), (sa2, .inl (kk 1, 120, .inl gz))] ++ (stW kk a4 gz uz rz ++ (stW kk a6 gz uz rz ++ (stW kk a8 gz uz rz ++ ([(q9, .inr (0, mmF ra10 gz)), (ra10, .inl (kk 4, 14, .inr (.inr (.inr (.inr (rowF ma10 (fun j => j)))))))] ++ (stsF kk ma10 (fun _ => gz) (fun _ => uz) (fun _ => rz) 0 14 ++ ([(q11, .inr (4, slF (b12 0) gz))] ++ (stW kk b12 gz uz rz ++ ([(q13, .inr (4, slF (b14 0) gz))] ++ (stW kk b14 gz uz rz)))))))))) H := hP
  replace hD : va_D A ([(h, .inr (7, [.ref q1, .ref (a4 0), .ref (a6 0), .ref (a8 0), .ref q9, .ref q11, .ref q13])), (q1, .inr (1, rdF t2 gz)), (t2, .inr (6, txF sa2 gz)), (sa2, .inl (kk 1, 120, .inl gz))] ++ (stW kk a4 gz uz rz ++ (stW kk a6 gz uz rz ++ (stW kk a8 gz uz rz ++ ([(q9, .inr (0, mmF ra10 gz)), (ra10, .inl (kk 4, 14, .inr (.inr (.inr (.inr (rowF ma10 (fun j => j)))))))] ++ (stsF kk ma10 (fun _ => gz) (fun _ => uz) (fun _ => rz) 0 14 ++ ([(q11, .inr (4, slF (b12 0) gz))] ++ (stW kk b12 gz uz rz ++ ([(q13, .inr (4, slF (b14 0) gz))] ++ (stW kk b14 gz uz rz)))))))))) := hD
  exact fin_c (B := fun A t => ∃ (ad : Nat → Nat → Nat) (tx sa ra : Nat) (ma : Nat → Nat → Nat) (b6 b7 : Nat → Nat), mB G kk ([(h, .inr (7, mrG ad)), ((ad 1) 0, .inr (1, rdF tx gz)), (tx, .inr (6, txF sa gz)), (sa, .inl (kk 1, 120, .inl gz))] ++ (stW kk (ad 2) gz uz rz ++ (stW kk (ad 3) gz uz rz ++ (stW kk (ad 4) gz uz rz ++ ([((ad 5) 0, .inr (0, mmF ra gz)), (ra, .inl (kk 4, 14, .inr (.inr (.inr (.inr (rowF ma (fun j => j)))))))] ++ (stsF kk ma (fun _ => gz) (fun _ => uz) (fun _ => rz) 0 14 ++ ([((ad 6) 0, .inr (4, slF (b6 0) gz))] ++ (stW kk b6 gz uz rz ++ ([((ad 7) 0, .inr (4, slF (b7 0) gz))] ++ (stW kk b7 gz uz rz)))))))))) A t) hx hb hr hlocks hS (fun t ht hal => ⟨ad7 q1 a4 a6 a8 q9 q11 q13, t2, sa2, ra10, ma10, b12, b14, by rw [ht]; exact hP, va_K.moved hal hK, hD⟩) dX7_init_81
