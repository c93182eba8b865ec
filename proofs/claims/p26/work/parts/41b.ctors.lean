theorem stsF_snoc {kk : Nat → ClassId} {ma : Nat → Nat → Nat} {G U : Nat → Nat → Int32} {RV : Nat → Nat → Nat → Int32} : ∀ (n i : Nat), stsF kk ma G U RV i (n + 1) = stsF kk ma G U RV i n ++ stW kk (ma (i + n)) (G (i + n)) (U (i + n)) (RV (i + n))
  | 0, i => by
    show stW kk (ma i) (G i) (U i) (RV i) ++ [] = [] ++ stW kk (ma (i + 0)) (G (i + 0)) (U (i + 0)) (RV (i + 0))
    rw [List.append_nil]
    rfl
  | n + 1, i => by
    show stW kk (ma i) (G i) (U i) (RV i) ++ stsF kk ma G U RV (i + 1) (n + 1) = (stW kk (ma i) (G i) (U i) (RV i) ++ stsF kk ma G U RV (i + 1) n) ++ _
    rw [stsF_snoc n (i + 1), List.append_assoc, show i + 1 + n = i + (n + 1) by omega]
theorem stsF_ma {kk : Nat → ClassId} {ma ma' : Nat → Nat → Nat} {G U : Nat → Nat → Int32} {RV : Nat → Nat → Nat → Int32} : ∀ (n i : Nat), (∀ p, i ≤ p → p < i + n → ma p = ma' p) → stsF kk ma G U RV i n = stsF kk ma' G U RV i n
  | 0, _, _ => rfl
  | n + 1, i, h => by
    show stW kk (ma i) (G i) (U i) (RV i) ++ stsF kk ma G U RV (i + 1) n = stW kk (ma' i) (G i) (U i) (RV i) ++ stsF kk ma' G U RV (i + 1) n
    rw [h i (Nat.le_refl _) (by omega), stsF_ma n (i + 1) (fun p h1 h2 => h p (by omega) (by omega))]
/-- the array while it is filled -/
def fillN (ma : Nat → Nat → Nat) (i : Nat) : Nat → Option Nat := fun j => if j < i then some (ma j 0) else none
def updM (ma : Nat → Nat → Nat) (i : Nat) (a : Nat → Nat) : Nat → Nat → Nat := fun p => if p = i then a else ma p
theorem fill_up {ma : Nat → Nat → Nat} {i : Nat} {a : Nat → Nat} (hi : i < 2 ^ 31) : va_up (fillN ma i) (nI i).toNatClampNeg (some (a 0)) = fillN (updM ma i a) (i + 1) := by
  funext j
  rw [nI_clamp hi]
  unfold va_up fillN updM
  by_cases h : j = i
  · rw [if_pos h, if_pos (by omega), if_pos h]
  · rw [if_neg h, if_neg h]
    by_cases h2 : j < i
    · rw [if_pos h2, if_pos (by omega)]
    · rw [if_neg h2, if_neg (by omega)]
theorem sts_up {kk : Nat → ClassId} {ma : Nat → Nat → Nat} {a : Nat → Nat} {i : Nat} : stsF kk ma (fun _ => gz) (fun _ => uz) (fun _ => rz) 0 i ++ stW kk a gz uz rz = stsF kk (updM ma i a) (fun _ => gz) (fun _ => uz) (fun _ => rz) 0 (i + 1) := by
  rw [stsF_snoc, Nat.zero_add, stsF_ma (ma := updM ma i a) (ma' := ma) i 0 (fun p _ h2 => if_neg (by omega))]
  show _ = _ ++ stW kk (updM ma i a i) gz uz rz
  rw [show updM ma i a i = a from if_pos rfl]
set_option maxRecDepth 100000 in
set_option maxHeartbeats 4000000 in
theorem c_X0_init (l : Launch) (G : va_G) (kk : Nat → ClassId) (h : Nat) : CI l yX0_init cX0_init 2 (rmI 3 80 127 1176) [.ref h] G kk [(h, .inr (0, [.null, .int 0]))] 127 1176 (fun A t => ∃ (ra : Nat) (ma : Nat → Nat → Nat), mB G kk ([(h, .inr (0, mmF ra gz)), (ra, .inl (kk 4, 14, .inr (.inr (.inr (.inr (rowF ma (fun j => j)))))))] ++ (stsF kk ma (fun _ => gz) (fun _ => uz) (fun _ => rz) 0 14)) A t) := by
  refine ci_start (by decide +kernel) (Nat.le_of_ble_eq_true rfl) rfl ?_
  intro p e s m below meth c A ls hx hb hr hml hown hts hlocks hA hE hK hP hD hS hl hin
  have hown : s.vm.findClass RX0 = some m.cls := hown
  have hl : lv_has ls 2 [(0, .ref h)] := hl
  refine lv_aload_n hx hb dX0_init_0 rfl (lv_at hl 0 rfl) ?_
  refine r_obj hx hb hml hl.1 hown hts ol_X0_3 dX0_init_1 (Nat.le_of_ble_eq_true rfl) (Nat.le_of_ble_eq_true rfl) ?_
  refine lv_aload_n hx hb dX0_init_4 rfl (lv_at hl 0 rfl) ?_
  refine lv_bipush (v := 14) hx hb dX0_init_5 (by decide) ?_
  refine r_newq (C := "MeterRooms$State") (t := 4) (N' := 14) hx hb hts hown (wg_of 226 (by decide +kernel) rfl) hE.2.2.2.2 hK hP hD hS hA rfl (by decide) (by decide) (by decide) (Nat.le_of_ble_eq_true rfl) (Nat.le_of_ble_eq_true rfl) dX0_init_7 (fun q1 H hP hD hS => ?_)
  refine r_putF (v := .ref q1) hx hb hts hown hK hP hD hS ff_X0_11 hin 0 rfl rfl rfl (Nat.le_of_ble_eq_true rfl) dX0_init_10 (fun H locs hP hD hS => ?_)
  refine lv_iconst (v := 0) hx hb dX0_init_13 (by decide) ?_
  refine lv_istore_n (lv' := [(1, .int (nI 0)), (0, .ref h)]) hx hb dX0_init_14 rfl hl (by decide) rfl (fun ls hl => ?_)
  have LOOP : ∀ (d i : Nat) (ma : Nat → Nat → Nat) (hd : i + d = 14) (H : Heap) (locs : List Loc) (ls : Array Slot) (hP : va_P G vwCl ([(h, .inr (0, [.ref q1, .int 0])), (q1, .inl (kk 4, 14, .inr (.inr (.inr (.inr (fillN ma i))))))] ++ stsF kk ma (fun _ => gz) (fun _ => uz) (fun _ => rz) 0 i) H) (hD : va_D A ([(h, .inr (0, [.ref q1, .int 0])), (q1, .inl (kk 4, 14, .inr (.inr (.inr (.inr (fillN ma i))))))] ++ stsF kk ma (fun _ => gz) (fun _ => uz) (fun _ => rz) 0 i)) (hS : va_S A s.heap H locs) (hl : lv_has ls 2 [(0, .ref h), (1, .int (nI i))]),
      W p l e (rmI 3 80 127 1176) s m ([.ref h] : List Value).toArray below meth c H locs (1 + 9 * i) (14 + 83 * i) (MQ below (va_Qv (S := Unit) (fun _ => True) (fun _ t => ∃ (ra : Nat) (ma : Nat → Nat → Nat), mB G kk ([(h, .inr (0, mmF ra gz)), (ra, .inl (kk 4, 14, .inr (.inr (.inr (.inr (rowF ma (fun j => j)))))))] ++ (stsF kk ma (fun _ => gz) (fun _ => uz) (fun _ => rz) 0 14)) A t) A) ([.ref h] : List Value).toArray s 127 1176 A) (F0 m 15 ls []) := by
    intro d
    induction d with
    | zero =>
      intro i ma hd H locs ls hP hD hS hl
      have hi : i = 14 := by omega
      subst hi
      refine lv_iload_n hx hb dX0_init_15 rfl (lv_at hl 1 rfl) ?_
      refine lv_aload_n hx hb dX0_init_16 rfl (lv_at hl 0 rfl) ?_
      refine r_get (v := .ref q1) hx hb hts hown hK hP fl_X0_11 0 rfl rfl dX0_init_17 ?_
      refine r_alen (t0 := 4) hx hb hK hP 1 rfl rfl dX0_init_20 ?_
      refine lv_icmp_ge (tgt := 43) hx hb dX0_init_21 (by decide) (fun c_21 => ?_) (fun c_21 => absurd (by decide) c_21)
      have hP := arr_same (k := 1) (g := rowF ma (fun j => j)) hP rfl (fun j hj => if_pos hj)
      replace hD : va_D A ([(h, .inr (0, [.ref q1, .int 0])), (q1, .inl (kk 4, 14, .inr (.inr (.inr (.inr (rowF ma (fun j => j)))))))] ++ stsF kk ma (fun _ => gz) (fun _ => uz) (fun _ => rz) 0 14) := hD.set (p := 1) rfl
      exact fin_c (B := fun A t => ∃ (ra : Nat) (ma : Nat → Nat → Nat), mB G kk ([(h, .inr (0, mmF ra gz)), (ra, .inl (kk 4, 14, .inr (.inr (.inr (.inr (rowF ma (fun j => j)))))))] ++ (stsF kk ma (fun _ => gz) (fun _ => uz) (fun _ => rz) 0 14)) A t) hx hb hr hlocks hS (fun t ht hal => ⟨q1, ma, by rw [ht]; exact hP, va_K.moved hal hK, hD⟩) dX0_init_43
    | succ d ih =>
      intro i ma hd H locs ls hP hD hS hl
      have hi : i < 14 := by omega
      have hC1 : 1 + 9 * i + 1 ≤ 127 := by omega
      have hC2 : 14 + 83 * i + 11 ≤ 1176 := by omega
      refine lv_iload_n hx hb dX0_init_15 rfl (lv_at hl 1 rfl) ?_
      refine lv_aload_n hx hb dX0_init_16 rfl (lv_at hl 0 rfl) ?_
      refine r_get (v := .ref q1) hx hb hts hown hK hP fl_X0_11 0 rfl rfl dX0_init_17 ?_
      refine r_alen (t0 := 4) hx hb hK hP 1 rfl rfl dX0_init_20 ?_
      refine lv_icmp_ge (tgt := 43) hx hb dX0_init_21 (by decide) (fun c_21 => absurd c_21 (nI_ge (a := i) (b := 14) (by omega) (by decide))) (fun c_21 => ?_)
      refine lv_aload_n hx hb dX0_init_24 rfl (lv_at hl 0 rfl) ?_
      refine r_get (v := .ref q1) hx hb hts hown hK hP fl_X0_11 0 rfl rfl dX0_init_25 ?_
      refine lv_iload_n hx hb dX0_init_28 rfl (lv_at hl 1 rfl) ?_
      refine r_new (ci := 5) (fs := [.null, .null, .int 0, .int 0, .int 0, .int 0, .int 0, .int 0, .int 0, .int 0, .int 0]) hx hb hts in_X5 tyX5_ok hown nl_X0_9 hK hP hD hS hA rfl (fun j hj => by rcases (show j = 0 ∨ j = 1 ∨ j = 2 ∨ j = 3 ∨ j = 4 ∨ j = 5 ∨ j = 6 ∨ j = 7 ∨ j = 8 ∨ j = 9 ∨ j = 10 by omega) with rfl | rfl | rfl | rfl | rfl | rfl | rfl | rfl | rfl | rfl | rfl <;> rfl) hC1 hC2 dX0_init_29 (fun q H hP hD hS => ?_)
      refine lv_dup hx hb dX0_init_32 rfl ?_
      refine k_ctor (rest := [.ref q, .int (nI i), .ref q1]) (As := []) hx hb hml hown hts hK hP hD hS hA hE hl.1 (c_X5_init l G kk q) il_X0_17 ⟨Nat.le_of_ble_eq_true rfl, Nat.le_of_ble_eq_true rfl, rfl, rfl⟩ (2 + 9 * i) (by rw [List.length_append, stsF_len]; rfl) ⟨(by show 1 + 9 * i + 1 + 8 ≤ 127; omega), (by show 14 + 83 * i + 11 + 72 ≤ 1176; omega)⟩ rfl (Nat.le_of_ble_eq_true rfl) dX0_init_33 (fun H locs t ht hB hj hS => ?_)
      obtain ⟨a, ha, hP1, hK1, hD1⟩ := hB
      rw [ht] at hP1
      subst ha
      obtain ⟨hP, hD⟩ := hj _ hP1 hD1
      have hv : (([(h, .inr (0, [.ref q1, .int 0])), (q1, .inl (kk 4, 14, .inr (.inr (.inr (.inr (fillN ma i))))))] ++ stsF kk ma (fun _ => gz) (fun _ => uz) (fun _ => rz) 0 i) ++ stW kk a gz uz rz : va_W)[2 + 9 * i]? = some (a 0, .inr (5, sgF (a 1) (a 2) gz)) := by
        rw [List.getElem?_append_right (by rw [List.length_append, stsF_len]; exact Nat.le_refl _), List.length_append, stsF_len]
        show (stW kk a gz uz rz)[2 + 9 * i - (2 + 9 * i)]? = _
        rw [Nat.sub_self]
        rfl
      refine va_astq hx hb hK hP hD hS 1 4 (2 + 9 * i) 5 rfl rfl hv rfl (ix_in (k := i) rfl hi (by decide)) dX0_init_36 (fun H locs hP hD hS => ?_)
      rw [fill_up (by omega)] at hP hD
      have ew : (([(h, .inr (0, [.ref q1, .int 0])), (q1, .inl (kk 4, 14, .inr (.inr (.inr (.inr (fillN ma i))))))] ++ stsF kk ma (fun _ => gz) (fun _ => uz) (fun _ => rz) 0 i) ++ stW kk a gz uz rz : va_W).set 1 (q1, .inl (kk 4, 14, .inr (.inr (.inr (.inr (fillN (updM ma i a) (i + 1))))))) = [(h, .inr (0, [.ref q1, .int 0])), (q1, .inl (kk 4, 14, .inr (.inr (.inr (.inr (fillN (updM ma i a) (i + 1)))))))] ++ stsF kk (updM ma i a) (fun _ => gz) (fun _ => uz) (fun _ => rz) 0 (i + 1) := by
        rw [← sts_up, List.append_assoc]
        rfl
      rw [ew] at hP hD
      refine lv_iinc (v := nI (i + 1)) (lv' := [(1, .int (nI (i + 1))), (0, .ref h)]) hx hb dX0_init_37 hl (k := 1) rfl (nI_add i 1) (by decide) rfl (fun ls hl => ?_)
      refine lv_goto (tgt := 15) hx hb dX0_init_40 (by decide) ?_
      refine W.widen (k := 1 + 9 * (i + 1)) (n := 14 + 83 * (i + 1)) (by omega) (by omega) ?_
      exact ih (i + 1) (updM ma i a) (by omega) _ _ ls hP hD hS (lv_sub hl [1, 0] rfl)
  refine LOOP 14 0 (fun _ _ => 0) rfl _ _ ls ?_ ?_ hS (lv_sub hl [1, 0] rfl)
  · exact arr_same (k := 1) (g := fillN (fun _ _ => 0) 0) hP rfl (fun j hj => (if_neg (Nat.not_lt_zero j)).symm)
  · exact hD.set (p := 1) (e := .inl (kk 4, 14, .inr (.inr (.inr (.inr (fillN (fun _ _ => 0) 0)))))) rfl
