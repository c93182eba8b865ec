set_option maxRecDepth 100000 in
set_option maxHeartbeats 8000000 in
theorem law_from {p : Program} {l : Launch} {e : Env} {s : State} {m : MethodId} {args : Array Value} {below : List Frame} {meth : Method} {c : Code} {Q : State → Prop} {G : va_G} {kk : Nat → ClassId} {A : Nat → Prop} {sb L ho hq : Nat} {xs : Nat → Int32} (hst : l.stackTraces = false) (X : LM p l e room_1 s m args below meth c cL_law 9 RL G kk A) (hX : va_X sb L xs s s.heap) (hbl : sb < s.heap.size) (hbA : ¬ A sb) (hL : L ≤ 260) (FIN : ∀ (H : Heap) (locs : List Loc) (ls : Array Slot) (C S : Nat), va_S A s.heap H locs → C ≤ 1200130 → S ≤ 5501080 → W p l e room_1 s m args below meth c H locs C S Q (F0 m 244 ls [.int 1])) (wa wb : va_W) (oa : OB kk 0 sgN ho wa) (ob : OB kk 0 sgN hq wb) (H : Heap) (locs : List Loc) (ls : Array Slot) (hP : va_P G vwCl (wa ++ wb) H) (hD : va_D A (wa ++ wb)) (hS : va_S A s.heap H locs) (hl : lv_has ls 9 [(2, .ref hq), (1, .ref ho), (0, .ref sb)]) : W p l e room_1 s m args below meth c H locs 358 3466 Q (F0 m 16 ls []) := by
  have a0 : wa.map (fun q => q.1) = wa.map (fun q => q.1) := rfl
  have b0 : wb.map (fun q => q.1) = wb.map (fun q => q.1) := rfl
  have m0 : mF sgN.1 = 0 := mF_new
  refine lv_aload_n X.1 X.2.1 dL_law_16 rfl (lv_at hl 2 rfl) ?_
  refine lv_iconst (v := 0) X.1 X.2.1 dL_law_17 (by decide) ?_
  refine top_eq (y := (nI 0)) (rfl) ?_
  refine k_cell (rest := []) 0 X hP hD hS hl.1 hX hbl hbA hL (by omega) sl_L_164 ⟨Nat.le_of_ble_eq_true rfl, Nat.le_of_ble_eq_true rfl, rfl, rfl⟩ ⟨by show _ ≤ 1200130; omega, by show _ ≤ 5501080; omega⟩ rfl (Nat.le_of_ble_eq_true rfl) dL_law_18 (fun v1 H locs hv1 hP hD hS => ?_)
  refine lv_istore_n (lv' := [(3, .int (nI v1)), (2, .ref hq), (1, .ref ho), (0, .ref sb)]) X.1 X.2.1 dL_law_21 rfl hl (by decide) rfl (fun ls hl => ?_)
  refine lv_aload_n X.1 X.2.1 dL_law_22 rfl (lv_at hl 2 rfl) ?_
  refine lv_bipush (v := 6) X.1 X.2.1 dL_law_23 (by decide) ?_
  refine lv_iconst (v := 1) X.1 X.2.1 dL_law_25 (by decide) ?_
  refine lv_iload_n X.1 X.2.1 dL_law_26 rfl (lv_at hl 0 rfl) ?_
  refine lv_bipush (v := 40) X.1 X.2.1 dL_law_27 (by decide) ?_
  refine lv_irem X.1 X.2.1 dL_law_29 (by decide) ?_
  refine top_eq (y := (nI (v1 % 40))) (md (b := 40) rfl (by decide) (by omega)) ?_
  refine lv_iadd X.1 X.2.1 dL_law_30 ?_
  refine top_eq (y := (nI (1 + (v1 % 40)))) (nI_add 1 (v1 % 40)) ?_
  refine lv_sipush (v := (-180)) X.1 X.2.1 dL_law_31 (by decide) ?_
  refine lv_sipush (v := (-150)) X.1 X.2.1 dL_law_34 (by decide) ?_
  have t1 := t_n (k := 1 + v1 % 40) (by omega)
  refine kGL (rest := []) (As := [.ref ho, .int 6, .int (nI (1 + (v1 % 40))), .int (-180), .int (-150)]) X hP hD hS hl.1 oa.len (q_add l hst G kk (by omega) oa (nI (1 + (v1 % 40))) ((-180) : Int32) ((-150) : Int32)  (by rw [m0]; omega) (by omega) (by decide) (by decide)) sl_L_138 ⟨Nat.le_of_ble_eq_true rfl, Nat.le_of_ble_eq_true rfl, rfl, rfl⟩ ⟨by show _ ≤ 1200130; omega, by show _ ≤ 5501080; omega⟩ rfl (Nat.le_of_ble_eq_true rfl) dL_law_37 (fun w2 r2 H locs hΦ a2 hP hD hS => ?_)
  obtain ⟨o2, rfl⟩ := hΦ
  replace a2 := a2.trans a0
  refine top_eq (y := 0) (by rw [m0]; rfl) ?_
  refine lv_if_ne (tgt := 68) X.1 X.2.1 dL_law_40 (by decide) (fun c_40 => absurd (by decide) c_40) (fun c_40 => ?_)
  refine lv_aload_n X.1 X.2.1 dL_law_43 rfl (lv_at hl 1 rfl) ?_
  refine lv_bipush (v := 6) X.1 X.2.1 dL_law_44 (by decide) ?_
  refine lv_iconst (v := 1) X.1 X.2.1 dL_law_46 (by decide) ?_
  refine lv_iload_n X.1 X.2.1 dL_law_47 rfl (lv_at hl 0 rfl) ?_
  refine lv_bipush (v := 40) X.1 X.2.1 dL_law_48 (by decide) ?_
  refine lv_irem X.1 X.2.1 dL_law_50 (by decide) ?_
  refine top_eq (y := (nI (v1 % 40))) (md (b := 40) rfl (by decide) (by omega)) ?_
  refine lv_iadd X.1 X.2.1 dL_law_51 ?_
  refine top_eq (y := (nI (1 + (v1 % 40)))) (nI_add 1 (v1 % 40)) ?_
  refine lv_sipush (v := (-180)) X.1 X.2.1 dL_law_52 (by decide) ?_
  refine lv_sipush (v := (-150)) X.1 X.2.1 dL_law_55 (by decide) ?_
  refine kGR (rest := []) (As := [.ref hq, .int 6, .int (nI (1 + (v1 % 40))), .int (-180), .int (-150)]) X hP hD hS hl.1 ob.len o2.len (q_add l hst G kk (by omega) ob (nI (1 + (v1 % 40))) ((-180) : Int32) ((-150) : Int32)  (by rw [m0]; omega) (by omega) (by decide) (by decide)) sl_L_138 ⟨Nat.le_of_ble_eq_true rfl, Nat.le_of_ble_eq_true rfl, rfl, rfl⟩ ⟨by show _ ≤ 1200130; omega, by show _ ≤ 5501080; omega⟩ rfl (Nat.le_of_ble_eq_true rfl) dL_law_58 (fun w3 r3 H locs hΦ a3 hP hD hS => ?_)
  obtain ⟨o3, rfl⟩ := hΦ
  replace a3 := a3.trans b0
  refine top_eq (y := 0) (by rw [m0]; rfl) ?_
  refine lv_if_ne (tgt := 68) X.1 X.2.1 dL_law_61 (by decide) (fun c_61 => absurd (by decide) c_61) (fun c_61 => ?_)
  refine lv_iconst (v := 1) X.1 X.2.1 dL_law_64 (by decide) ?_
  refine lv_goto (tgt := 69) X.1 X.2.1 dL_law_65 (by decide) ?_
  refine lv_istore (lv' := [(4, .int 1), (3, .int (nI v1)), (2, .ref hq), (1, .ref ho), (0, .ref sb)]) X.1 X.2.1 dL_law_69 hl (by decide) rfl (fun ls hl => ?_)
  refine lv_bipush (v := 6) X.1 X.2.1 dL_law_71 (by decide) ?_
  refine lv_aload_n X.1 X.2.1 dL_law_73 rfl (lv_at hl 4 rfl) ?_
  refine lv_iconst (v := 1) X.1 X.2.1 dL_law_74 (by decide) ?_
  refine top_eq (y := (nI 1)) (rfl) ?_
  refine k_cell (rest := [.int 6]) 1 X hP hD hS hl.1 hX hbl hbA hL (by omega) sl_L_164 ⟨Nat.le_of_ble_eq_true rfl, Nat.le_of_ble_eq_true rfl, rfl, rfl⟩ ⟨by show _ ≤ 1200130; omega, by show _ ≤ 5501080; omega⟩ rfl (Nat.le_of_ble_eq_true rfl) dL_law_75 (fun v4 H locs hv4 hP hD hS => ?_)
  refine lv_bipush (v := 17) X.1 X.2.1 dL_law_78 (by decide) ?_
  refine lv_irem X.1 X.2.1 dL_law_80 (by decide) ?_
  refine top_eq (y := (nI (v4 % 17))) (md (b := 17) rfl (by decide) (by omega)) ?_
  refine lv_iadd X.1 X.2.1 dL_law_81 ?_
  refine top_eq (y := (nI (6 + (v4 % 17)))) (nI_add 6 (v4 % 17)) ?_
  refine lv_istore (lv' := [(5, .int (nI (6 + (v4 % 17)))), (4, .int 1), (3, .int (nI v1)), (2, .ref hq), (1, .ref ho), (0, .ref sb)]) X.1 X.2.1 dL_law_82 hl (by decide) rfl (fun ls hl => ?_)
  refine lv_iconst (v := 0) X.1 X.2.1 dL_law_84 (by decide) ?_
  refine lv_istore (lv' := [(6, .int 0), (5, .int (nI (6 + (v4 % 17)))), (4, .int 1), (3, .int (nI v1)), (2, .ref hq), (1, .ref ho), (0, .ref sb)]) X.1 X.2.1 dL_law_85 hl (by decide) rfl (fun ls hl => ?_)
  refine W.widen (k := 400 + 700 * 0) (n := 4000 + 5000 * 0) (by omega) (by omega) ?_
  exact law_loop hst X hX hbl hbA hL (T := 6 + (v4 % 17)) (by omega) FIN (6 + (v4 % 17)) 0 _ _ _ good_first (OB.mono (by omega) o2) (OB.mono (by omega) o3) H locs ls hP hD hS (lv_sub hl [6, 5, 4, 2, 1, 0] rfl) (by omega)
set_option maxRecDepth 100000 in
set_option maxHeartbeats 8000000 in
theorem whole_start {p : Program} {e : Env} {s : State} {m : MethodId} {below : List Frame} {meth : Method} {c : Code} (l : Launch) (hflags : l.flags = flags0) {b L : Nat} {xs : Nat → Int32} (hL : L ≤ 260) (C0 : lw_At p s m meth c b L xs) : W p l e room_1 s m #[Value.ref b] below meth c s.heap [] 0 0 (lw_Z below #[Value.ref b] s) (entryFrame m ([Value.ref b] : List Value).toArray 9) := by
  obtain ⟨hx, hb, hr, hml, hown, hts, hX, hbl, hlocks, hgv⟩ := id C0
  have hst : l.stackTraces = false := by
    unfold Launch.stackTraces
    rw [hflags]
    decide +kernel
  have hs := flat_of_before _ hgv
  obtain ⟨A, eA⟩ : ∃ A : Nat → Prop, A = (fun q : Nat => s.heap.size ≤ q) := ⟨_, rfl⟩
  have hA : ∀ q : Nat, s.heap.size ≤ q → A q := fun q h => by rw [eA]; exact h
  have hAn : ∀ a : Nat, a < s.heap.size → ¬ A a := fun a h q => by rw [eA] at q; exact absurd q (Nat.not_le.mpr h)
  have htsG : ∀ w ∈ WG, w.before #[Value.ref b] s = true := fun w hw => hts w (List.mem_filter.mp hw).1
  have hE : ENV A s := en_all hts hs hAn
  have hN : NC s := en_nc hts hs
  obtain ⟨G, hG⟩ := cls_all htsG
  obtain ⟨kk, hkk⟩ := tys_all htsG hE.2.2.2.1 hE.2.2.2.2
  have hK : va_K G vwCl (TYS kk) s := ⟨hG, hkk⟩
  have hown : s.vm.findClass RL = some m.cls := hown
  have hb : c.code = cL_law := hb
  have X : LM p l e room_1 s m #[Value.ref b] below meth c cL_law 9 RL G kk A := ⟨hx, hb, hml, hown, htsG, hK, hA, hE, hN⟩
  have hS : va_S A s.heap s.heap [] := va_S.rf
  have hP : va_P G vwCl [] s.heap := fun k q h => by simp at h
  have hD : va_D A [] := ⟨fun i j p q h => by simp at h, fun k q h => by simp at h⟩
  have hl := lv_entry ([.ref b]) (n := 9) (Nat.le_of_ble_eq_true rfl)
  rw [lg_entry_eq]
  generalize (lg_sl ([.ref b]) ++ List.replicate (9 - (lg_sl ([.ref b])).length) Slot.unset).toArray = ls at hl ⊢
  have hl : lv_has ls 9 [(0, .ref b)] := hl
  refine r_new (ci := 7) (fs := [.null, .null, .null, .null, .null, .null, .null]) hx hb htsG in_X7 tyX7_ok hown nl_L_8 hK hP hD hS hA rfl (fun j hj => by rcases (show j = 0 ∨ j = 1 ∨ j = 2 ∨ j = 3 ∨ j = 4 ∨ j = 5 ∨ j = 6 by omega) with rfl | rfl | rfl | rfl | rfl | rfl | rfl <;> rfl) (Nat.le_of_ble_eq_true rfl) (Nat.le_of_ble_eq_true rfl) dL_law_0 (fun h1 H hP hD hS => ?_)
  refine lv_dup hx hb dL_law_3 rfl ?_
  refine k_ctor (rest := [.ref h1]) (As := []) hx hb hml hown htsG hK hP hD hS hA hE hl.1 (c_X7_init l G kk h1) il_L_163 ⟨Nat.le_of_ble_eq_true rfl, Nat.le_of_ble_eq_true rfl, rfl, rfl⟩ 0 rfl ⟨Nat.le_of_ble_eq_true rfl, Nat.le_of_ble_eq_true rfl⟩ rfl (Nat.le_of_ble_eq_true rfl) dL_law_4 (fun H locs t ht hB hj hS => ?_)
  obtain ⟨ad1, tx1, sa1, ra1, ma1, b61, b71, hP1, hK1, hD1⟩ := hB
  rw [ht] at hP1
  obtain ⟨hP, hD⟩ := hj _ hP1 hD1
  replace hP : va_P G vwCl (NEWW kk h1 ad1 tx1 sa1 ra1 ma1 b61 b71) H := vP_eq2 hP (List.nil_append _)
  replace hD : va_D A (NEWW kk h1 ad1 tx1 sa1 ra1 ma1 b61 b71) := vD_eq2 hD (List.nil_append _)
  refine W.widen (k := 179) (n := 1733) (Nat.le_of_ble_eq_true rfl) (Nat.le_of_ble_eq_true rfl) ?_
  refine lv_astore_n (lv' := [(1, .ref h1), (0, .ref b)]) hx hb dL_law_7 rfl hl (by decide) rfl (fun ls hl => ?_)
  refine r_new (ci := 7) (fs := [.null, .null, .null, .null, .null, .null, .null]) hx hb htsG in_X7 tyX7_ok hown nl_L_8 hK hP hD hS hA rfl (fun j hj => by rcases (show j = 0 ∨ j = 1 ∨ j = 2 ∨ j = 3 ∨ j = 4 ∨ j = 5 ∨ j = 6 by omega) with rfl | rfl | rfl | rfl | rfl | rfl | rfl <;> rfl) (Nat.le_of_ble_eq_true rfl) (Nat.le_of_ble_eq_true rfl) dL_law_8 (fun h2 H hP hD hS => ?_)
  refine lv_dup hx hb dL_law_11 rfl ?_
  refine k_ctor (rest := [.ref h2]) (As := []) hx hb hml hown htsG hK hP hD hS hA hE hl.1 (c_X7_init l G kk h2) il_L_163 ⟨Nat.le_of_ble_eq_true rfl, Nat.le_of_ble_eq_true rfl, rfl, rfl⟩ 179 ob_new.len ⟨Nat.le_of_ble_eq_true rfl, Nat.le_of_ble_eq_true rfl⟩ rfl (Nat.le_of_ble_eq_true rfl) dL_law_12 (fun H locs t ht hB hj hS => ?_)
  obtain ⟨ad2, tx2, sa2, ra2, ma2, b62, b72, hP1, hK1, hD1⟩ := hB
  rw [ht] at hP1
  obtain ⟨hP, hD⟩ := hj _ hP1 hD1
  replace hP : va_P G vwCl (NEWW kk h1 ad1 tx1 sa1 ra1 ma1 b61 b71 ++ NEWW kk h2 ad2 tx2 sa2 ra2 ma2 b62 b72) H := hP
  replace hD : va_D A (NEWW kk h1 ad1 tx1 sa1 ra1 ma1 b61 b71 ++ NEWW kk h2 ad2 tx2 sa2 ra2 ma2 b62 b72) := hD
  refine W.widen (k := 358) (n := 3466) (Nat.le_of_ble_eq_true rfl) (Nat.le_of_ble_eq_true rfl) ?_
  refine lv_astore_n (lv' := [(2, .ref h2), (1, .ref h1), (0, .ref b)]) hx hb dL_law_15 rfl hl (by decide) rfl (fun ls hl => ?_)
  refine law_from hst X hX hbl (hAn b hbl) hL (fun H locs ls C S hS hC hS0 => ?_) _ _ ob_new ob_new H _ ls hP hD hS hl
  refine va_forget (fun q hq => by have h9 := hS.2.2 q hq; rw [eA] at h9; exact h9) ?_
  refine W.widen (k := 1200130) (n := 5501080) hC hS0 ?_
  exact lw_ret hx hb hr hlocks dL_law_244
