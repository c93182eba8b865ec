set_option maxRecDepth 100000 in
set_option maxHeartbeats 4000000 in
theorem c_holds (l : Launch) (hst : l.stackTraces = false) (G : va_G) (kk : Nat → ClassId) {B : Nat} {σ : SG} {h : Nat} {ws : va_W} (hB : B ≤ 80000) (o0 : OB kk B σ h ws) : CG l yL_holds cL_holds 17 (some .boolean) (rmG 9 167 200 1200) [.ref h] G kk ws 200 1200 (QG G kk ws (fun w1 r => OB kk B σ h w1 ∧ r = 1)) := by
  have ok := o0.row.1
  have okx := o0.row.2
  have hm6 := ok.1
  refine cg2_start (by decide +kernel) (Nat.le_of_ble_eq_true rfl) (Or.inr rfl) ?_
  intro p e s m args below meth c A ls Q X hP hD hS hl FIN
  have X : LM p l e (rmG 9 167 200 1200) s m args below meth c cL_holds 17 RL G kk A := X
  have hl : lv_has ls 17 [(0, .ref h)] := hl
  have a0 : ws.map (fun q => q.1) = ws.map (fun q => q.1) := rfl
  have L2 : ∀ (d i : Nat) (w1 : va_W) (o1 : OB kk B σ h w1) (a1 : w1.map (fun q => q.1) = ws.map (fun q => q.1))  (H : Heap) (locs : List Loc) (ls : Array Slot) (hP : va_P G vwCl (w1) H) (hD : va_D A (w1)) (hS : va_S A s.heap H locs) (hl : lv_has ls 17 [(0, .ref h), (1, .int (nI (mF σ.1))), (2, .int (sX8_minutesLeft σ.1)), (3, .int (σ.1 10)), (4, .int (σ.1 12)), (5, .int (σ.1 2)), (6, .int (TKs σ.1 (mF σ.1))), (7, .int (FTs σ.1 (mF σ.1))), (8, .int 1), (9, .int (qSpare σ.1)), (10, .int (qBest σ.1)), (11, .int (OPs σ.1 i)), (12, .int (nI i))]) (hd : i + d = mF σ.1), W p l e (rmG 9 167 200 1200) s m args below meth c H locs (150 + i) (900 + 6 * i) Q (F0 m 512 ls []) := by
    intro d
    induction d with
    | zero =>
      intro i w1 o1 a1  H locs ls hP hD hS hl hd
      refine lv_iload X.1 X.2.1 dL_holds_512 (lv_at hl 12 rfl) ?_
      refine lv_iload_n X.1 X.2.1 dL_holds_514 rfl (lv_at hl 1 rfl) ?_
      refine lv_icmp_ge (tgt := 538) X.1 X.2.1 dL_holds_515 (by decide) (fun c_515 => ?_) (fun c_515 => absurd (nI_le (a := mF σ.1) (b := i) (by omega) (by omega)) c_515)
      have hie : i = mF σ.1 := by omega
      subst hie
      have hl : lv_has ls 17 [(0, .ref h), (1, .int (nI (mF σ.1))), (2, .int (sX8_minutesLeft σ.1)), (3, .int (σ.1 10)), (4, .int (σ.1 12)), (5, .int (σ.1 2)), (6, .int (TKs σ.1 (mF σ.1))), (7, .int (FTs σ.1 (mF σ.1))), (8, .int 1), (9, .int (qSpare σ.1)), (10, .int (qBest σ.1)), (11, .int (OPs σ.1 (mF σ.1)))] := lv_sub hl [0, 1, 2, 3, 4, 5, 6, 7, 8, 9, 10, 11] rfl
      have JB_ : W p l e (rmG 9 167 200 1200) s m args below meth c H locs (150 + mF σ.1) (900 + 6 * mF σ.1) Q (F0 m 620 ls []) := by
        rcases best_facts ok with ⟨hb1, hb2⟩ | ⟨j, hj, hb1, hb2, hb3⟩
        · skip
          refine lv_iload X.1 X.2.1 dL_holds_620 (lv_at hl 10 rfl) ?_
          refine top_eq (y := (-1)) (hb1) ?_
          refine lv_iconst (v := (-1)) X.1 X.2.1 dL_holds_622 (by decide) ?_
          refine lv_icmp_ne (tgt := 630) X.1 X.2.1 dL_holds_623 (by decide) (fun c_623 => absurd (by decide) c_623) (fun c_623 => ?_)
          refine lv_iconst (v := 1) X.1 X.2.1 dL_holds_626 (by decide) ?_
          refine lv_goto (tgt := 631) X.1 X.2.1 dL_holds_627 (by decide) ?_
          refine lv_iload X.1 X.2.1 dL_holds_631 (lv_at hl 11 rfl) ?_
          refine lv_if_ne (tgt := 640) X.1 X.2.1 dL_holds_633 (by decide) (fun c_633 => absurd (hb2) c_633) (fun c_633 => ?_)
          refine lv_iconst (v := 1) X.1 X.2.1 dL_holds_636 (by decide) ?_
          refine lv_goto (tgt := 641) X.1 X.2.1 dL_holds_637 (by decide) ?_
          refine lv_icmp_ne (tgt := 667) X.1 X.2.1 dL_holds_641 (by decide) (fun c_641 => absurd (by decide) c_641) (fun c_641 => ?_)
          refine lv_iload X.1 X.2.1 dL_holds_644 (lv_at hl 10 rfl) ?_
          refine top_eq (y := (-1)) (hb1) ?_
          refine lv_iconst (v := (-1)) X.1 X.2.1 dL_holds_646 (by decide) ?_
          refine lv_icmp_eq (tgt := 663) X.1 X.2.1 dL_holds_647 (by decide) (fun c_647 => ?_) (fun c_647 => absurd (by decide) c_647)
          refine lv_iconst (v := 1) X.1 X.2.1 dL_holds_663 (by decide) ?_
          refine lv_goto (tgt := 668) X.1 X.2.1 dL_holds_664 (by decide) ?_
          refine W.widen (k := 200) (n := 1200) (by omega) (by omega) ?_
          exact FIN _ 1 H locs ls 668 ⟨o1, rfl⟩ a1 hP hD hS (fun _ => rfl) dL_holds_668
        · skip
          refine lv_iload X.1 X.2.1 dL_holds_620 (lv_at hl 10 rfl) ?_
          refine top_eq (y := (nI j)) (hb1) ?_
          refine lv_iconst (v := (-1)) X.1 X.2.1 dL_holds_622 (by decide) ?_
          refine lv_icmp_ne (tgt := 630) X.1 X.2.1 dL_holds_623 (by decide) (fun c_623 => ?_) (fun c_623 => absurd c_623 (nI_nm1 (by omega)))
          refine lv_iconst (v := 0) X.1 X.2.1 dL_holds_630 (by decide) ?_
          refine lv_iload X.1 X.2.1 dL_holds_631 (lv_at hl 11 rfl) ?_
          refine lv_if_ne (tgt := 640) X.1 X.2.1 dL_holds_633 (by decide) (fun c_633 => ?_) (fun c_633 => absurd c_633 (hb3))
          refine lv_iconst (v := 0) X.1 X.2.1 dL_holds_640 (by decide) ?_
          refine lv_icmp_ne (tgt := 667) X.1 X.2.1 dL_holds_641 (by decide) (fun c_641 => absurd (by decide) c_641) (fun c_641 => ?_)
          refine lv_iload X.1 X.2.1 dL_holds_644 (lv_at hl 10 rfl) ?_
          refine top_eq (y := (nI j)) (hb1) ?_
          refine lv_iconst (v := (-1)) X.1 X.2.1 dL_holds_646 (by decide) ?_
          refine lv_icmp_eq (tgt := 663) X.1 X.2.1 dL_holds_647 (by decide) (fun c_647 => absurd c_647 (nI_nm1 (by omega))) (fun c_647 => ?_)
          refine lv_aload_n X.1 X.2.1 dL_holds_650 rfl (lv_at hl 0 rfl) ?_
          refine lv_iconst (v := 3) X.1 X.2.1 dL_holds_651 (by decide) ?_
          refine lv_iload X.1 X.2.1 dL_holds_652 (lv_at hl 10 rfl) ?_
          refine top_eq (y := (nI j)) (hb1) ?_
          refine lv_iconst (v := 4) X.1 X.2.1 dL_holds_654 (by decide) ?_
          refine lv_iconst (v := 0) X.1 X.2.1 dL_holds_655 (by decide) ?_
          refine kG1 (rest := []) (As := [.ref h, .int 3, .int (nI j), .int 4, .int 0]) X hP hD hS hl.1 o1.len (q_room l hst G kk (by omega) o1 (nI j) 4 0 ) sl_L_138 ⟨Nat.le_of_ble_eq_true rfl, Nat.le_of_ble_eq_true rfl, rfl, rfl⟩ ⟨by show _ ≤ 200; omega, by show _ ≤ 1200; omega⟩ rfl (Nat.le_of_ble_eq_true rfl) dL_holds_656 (fun w2 r2 H locs hΦ a2 hP hD hS => ?_)
          obtain ⟨o2, rfl⟩ := hΦ
          replace a2 := a2.trans a1
          refine top_eq (y := 1) ((qr_at ok (w := 4) hj (by decide)).trans hb2) ?_
          refine lv_iconst (v := 1) X.1 X.2.1 dL_holds_659 (by decide) ?_
          refine lv_icmp_ne (tgt := 667) X.1 X.2.1 dL_holds_660 (by decide) (fun c_660 => absurd (by decide) c_660) (fun c_660 => ?_)
          refine lv_iconst (v := 1) X.1 X.2.1 dL_holds_663 (by decide) ?_
          refine lv_goto (tgt := 668) X.1 X.2.1 dL_holds_664 (by decide) ?_
          refine W.widen (k := 200) (n := 1200) (by omega) (by omega) ?_
          exact FIN _ 1 H locs ls 668 ⟨o2, rfl⟩ a2 hP hD hS (fun _ => rfl) dL_holds_668
      have JS_ : W p l e (rmG 9 167 200 1200) s m args below meth c H locs (150 + mF σ.1) (900 + 6 * mF σ.1) Q (F0 m 562 ls []) := by
        refine lv_iload X.1 X.2.1 dL_holds_562 (lv_at hl 9 rfl) ?_
        refine lv_iconst (v := (-1)) X.1 X.2.1 dL_holds_564 (by decide) ?_
        refine lv_icmp_ne (tgt := 582) X.1 X.2.1 dL_holds_565 (by decide) (fun c_565 => ?_) (fun c_565 => ?_)
        · skip
          obtain ⟨hs1, hs2⟩ := (sp_facts (by omega) ok).2 c_565
          refine lv_iload X.1 X.2.1 dL_holds_582 (lv_at hl 5 rfl) ?_
          refine lv_iload X.1 X.2.1 dL_holds_584 (lv_at hl 9 rfl) ?_
          refine lv_iload X.1 X.2.1 dL_holds_586 (lv_at hl 4 rfl) ?_
          refine lv_iadd X.1 X.2.1 dL_holds_588 ?_
          refine lv_iload_n X.1 X.2.1 dL_holds_589 rfl (lv_at hl 2 rfl) ?_
          refine lv_imul X.1 X.2.1 dL_holds_590 ?_
          refine lv_iadd X.1 X.2.1 dL_holds_591 ?_
          refine lv_iload_n X.1 X.2.1 dL_holds_592 rfl (lv_at hl 3 rfl) ?_
          refine lv_icmp_gt (tgt := 667) X.1 X.2.1 dL_holds_593 (by decide) (fun c_593 => absurd c_593 (hs1)) (fun c_593 => ?_)
          refine lv_iload X.1 X.2.1 dL_holds_596 (lv_at hl 9 rfl) ?_
          refine lv_sipush (v := 9999) X.1 X.2.1 dL_holds_598 (by decide) ?_
          refine lv_icmp_eq (tgt := 620) X.1 X.2.1 dL_holds_601 (by decide) (fun c_601 => ?_) (fun c_601 => ?_)
          · skip
            exact JB_
          · skip
            refine lv_iload X.1 X.2.1 dL_holds_604 (lv_at hl 5 rfl) ?_
            refine lv_iload X.1 X.2.1 dL_holds_606 (lv_at hl 9 rfl) ?_
            refine lv_iconst (v := 1) X.1 X.2.1 dL_holds_608 (by decide) ?_
            refine lv_iadd X.1 X.2.1 dL_holds_609 ?_
            refine lv_iload X.1 X.2.1 dL_holds_610 (lv_at hl 4 rfl) ?_
            refine lv_iadd X.1 X.2.1 dL_holds_612 ?_
            refine lv_iload_n X.1 X.2.1 dL_holds_613 rfl (lv_at hl 2 rfl) ?_
            refine lv_imul X.1 X.2.1 dL_holds_614 ?_
            refine lv_iadd X.1 X.2.1 dL_holds_615 ?_
            refine lv_iload_n X.1 X.2.1 dL_holds_616 rfl (lv_at hl 3 rfl) ?_
            refine lv_icmp_le (tgt := 667) X.1 X.2.1 dL_holds_617 (by decide) (fun c_617 => absurd c_617 (hs2)) (fun c_617 => ?_)
            exact JB_
        · skip
          have hs1 := (sp_facts (by omega) ok).1 c_565
          refine lv_iload X.1 X.2.1 dL_holds_568 (lv_at hl 5 rfl) ?_
          refine lv_iload X.1 X.2.1 dL_holds_570 (lv_at hl 4 rfl) ?_
          refine lv_iload_n X.1 X.2.1 dL_holds_572 rfl (lv_at hl 2 rfl) ?_
          refine lv_imul X.1 X.2.1 dL_holds_573 ?_
          refine lv_iadd X.1 X.2.1 dL_holds_574 ?_
          refine lv_iload_n X.1 X.2.1 dL_holds_575 rfl (lv_at hl 3 rfl) ?_
          refine lv_icmp_le (tgt := 667) X.1 X.2.1 dL_holds_576 (by decide) (fun c_576 => absurd c_576 (hs1)) (fun c_576 => ?_)
          refine lv_goto (tgt := 620) X.1 X.2.1 dL_holds_579 (by decide) ?_
          exact JB_
      refine lv_iload X.1 X.2.1 dL_holds_538 (lv_at hl 8 rfl) ?_
      refine lv_if_eq (tgt := 667) X.1 X.2.1 dL_holds_540 (by decide) (fun c_540 => absurd c_540 (by decide)) (fun c_540 => ?_)
      refine lv_iload X.1 X.2.1 dL_holds_543 (lv_at hl 7 rfl) ?_
      refine lv_if_eq (tgt := 562) X.1 X.2.1 dL_holds_545 (by decide) (fun c_545 => ?_) (fun c_545 => ?_)
      · skip
        exact JS_
      · skip
        refine lv_iload X.1 X.2.1 dL_holds_548 (lv_at hl 5 rfl) ?_
        refine lv_iload X.1 X.2.1 dL_holds_550 (lv_at hl 6 rfl) ?_
        refine lv_iload X.1 X.2.1 dL_holds_552 (lv_at hl 4 rfl) ?_
        refine lv_iadd X.1 X.2.1 dL_holds_554 ?_
        refine lv_iload_n X.1 X.2.1 dL_holds_555 rfl (lv_at hl 2 rfl) ?_
        refine lv_imul X.1 X.2.1 dL_holds_556 ?_
        refine lv_iadd X.1 X.2.1 dL_holds_557 ?_
        refine lv_iload_n X.1 X.2.1 dL_holds_558 rfl (lv_at hl 3 rfl) ?_
        refine lv_icmp_gt (tgt := 667) X.1 X.2.1 dL_holds_559 (by decide) (fun c_559 => absurd c_559 (h_fit (by omega) ok c_545)) (fun c_559 => ?_)
        exact JS_
    | succ d ih =>
      intro i w1 o1 a1  H locs ls hP hD hS hl hd
      refine lv_iload X.1 X.2.1 dL_holds_512 (lv_at hl 12 rfl) ?_
      refine lv_iload_n X.1 X.2.1 dL_holds_514 rfl (lv_at hl 1 rfl) ?_
      refine lv_icmp_ge (tgt := 538) X.1 X.2.1 dL_holds_515 (by decide) (fun c_515 => absurd c_515 (nI_ge (a := i) (b := mF σ.1) (by omega) (by omega))) (fun c_515 => ?_)
      refine lv_iload X.1 X.2.1 dL_holds_518 (lv_at hl 11 rfl) ?_
      refine lv_aload_n X.1 X.2.1 dL_holds_520 rfl (lv_at hl 0 rfl) ?_
      refine lv_iconst (v := 3) X.1 X.2.1 dL_holds_521 (by decide) ?_
      refine lv_iload X.1 X.2.1 dL_holds_522 (lv_at hl 12 rfl) ?_
      refine lv_iconst (v := 4) X.1 X.2.1 dL_holds_524 (by decide) ?_
      refine lv_iconst (v := 0) X.1 X.2.1 dL_holds_525 (by decide) ?_
      refine kG1 (rest := [.int (OPs σ.1 i)]) (As := [.ref h, .int 3, .int (nI i), .int 4, .int 0]) X hP hD hS hl.1 o1.len (q_room l hst G kk (by omega) o1 (nI i) 4 0 ) sl_L_138 ⟨Nat.le_of_ble_eq_true rfl, Nat.le_of_ble_eq_true rfl, rfl, rfl⟩ ⟨by show _ ≤ 200; omega, by show _ ≤ 1200; omega⟩ rfl (Nat.le_of_ble_eq_true rfl) dL_holds_526 (fun w3 r3 H locs hΦ a3 hP hD hS => ?_)
      obtain ⟨o3, rfl⟩ := hΦ
      replace a3 := a3.trans a1
      refine top_eq (y := (σ.1 (16 + 8 * i + 4))) (qr_at ok (w := 4) (by omega) (by decide)) ?_
      refine lv_iadd X.1 X.2.1 dL_holds_529 ?_
      refine top_eq (y := (OPs σ.1 (i + 1))) (rfl) ?_
      refine lv_istore (lv' := [(11, .int (OPs σ.1 (i + 1))), (0, .ref h), (1, .int (nI (mF σ.1))), (2, .int (sX8_minutesLeft σ.1)), (3, .int (σ.1 10)), (4, .int (σ.1 12)), (5, .int (σ.1 2)), (6, .int (TKs σ.1 (mF σ.1))), (7, .int (FTs σ.1 (mF σ.1))), (8, .int 1), (9, .int (qSpare σ.1)), (10, .int (qBest σ.1)), (12, .int (nI i))]) X.1 X.2.1 dL_holds_530 hl (by decide) rfl (fun ls hl => ?_)
      refine lv_iinc (v := (nI (i + 1))) (lv' := [(12, .int (nI (i + 1))), (11, .int (OPs σ.1 (i + 1))), (0, .ref h), (1, .int (nI (mF σ.1))), (2, .int (sX8_minutesLeft σ.1)), (3, .int (σ.1 10)), (4, .int (σ.1 12)), (5, .int (σ.1 2)), (6, .int (TKs σ.1 (mF σ.1))), (7, .int (FTs σ.1 (mF σ.1))), (8, .int 1), (9, .int (qSpare σ.1)), (10, .int (qBest σ.1))]) X.1 X.2.1 dL_holds_532 hl (k := 12) rfl (nI_add i 1) (by decide) rfl (fun ls hl => ?_)
      refine lv_goto (tgt := 512) X.1 X.2.1 dL_holds_535 (by decide) ?_
      refine W.widen (k := 150 + (i + 1)) (n := 900 + 6 * (i + 1)) (by omega) (by omega) ?_
      exact ih (i + 1) _ o3 a3  _ _ ls hP hD hS (lv_sub hl [2, 3, 4, 5, 6, 7, 8, 9, 10, 11, 12, 1, 0] rfl) (by omega)
  have L1 : ∀ (d i : Nat) (w4 : va_W) (o4 : OB kk B σ h w4) (a4 : w4.map (fun q => q.1) = ws.map (fun q => q.1))  (H : Heap) (locs : List Loc) (ls : Array Slot) (hP : va_P G vwCl (w4) H) (hD : va_D A (w4)) (hS : va_S A s.heap H locs) (hl : lv_has ls 17 [(0, .ref h), (1, .int (nI (mF σ.1))), (2, .int (sX8_minutesLeft σ.1)), (3, .int (σ.1 10)), (4, .int (σ.1 12)), (5, .int (σ.1 2)), (6, .int (TKs σ.1 i)), (7, .int (FTs σ.1 i)), (8, .int 1), (9, .int (nI i))]) (hd : i + d = mF σ.1), W p l e (rmG 9 167 200 1200) s m args below meth c H locs (20 + 20 * i) (120 + 120 * i) Q (F0 m 101 ls []) := by
    intro d
    induction d with
    | zero =>
      intro i w4 o4 a4  H locs ls hP hD hS hl hd
      refine lv_iload X.1 X.2.1 dL_holds_101 (lv_at hl 9 rfl) ?_
      refine lv_iload_n X.1 X.2.1 dL_holds_103 rfl (lv_at hl 1 rfl) ?_
      refine lv_icmp_ge (tgt := 494) X.1 X.2.1 dL_holds_104 (by decide) (fun c_104 => ?_) (fun c_104 => absurd (nI_le (a := mF σ.1) (b := i) (by omega) (by omega)) c_104)
      have hie : i = mF σ.1 := by omega
      subst hie
      have hl : lv_has ls 17 [(0, .ref h), (1, .int (nI (mF σ.1))), (2, .int (sX8_minutesLeft σ.1)), (3, .int (σ.1 10)), (4, .int (σ.1 12)), (5, .int (σ.1 2)), (6, .int (TKs σ.1 (mF σ.1))), (7, .int (FTs σ.1 (mF σ.1))), (8, .int 1)] := lv_sub hl [0, 1, 2, 3, 4, 5, 6, 7, 8] rfl
      refine lv_aload_n X.1 X.2.1 dL_holds_494 rfl (lv_at hl 0 rfl) ?_
      refine k_spare1 (rest := []) X (by omega) o4 hP hD hS hl.1 vl_L_156 ⟨Nat.le_of_ble_eq_true rfl, Nat.le_of_ble_eq_true rfl, rfl, rfl⟩ ⟨by show _ ≤ 200; omega, by show _ ≤ 1200; omega⟩ rfl (Nat.le_of_ble_eq_true rfl) dL_holds_495 (fun w5 H locs o5 a5 hP hD hS => ?_)
      replace a5 := a5.trans a4
      refine lv_istore (lv' := [(9, .int (qSpare σ.1)), (0, .ref h), (1, .int (nI (mF σ.1))), (2, .int (sX8_minutesLeft σ.1)), (3, .int (σ.1 10)), (4, .int (σ.1 12)), (5, .int (σ.1 2)), (6, .int (TKs σ.1 (mF σ.1))), (7, .int (FTs σ.1 (mF σ.1))), (8, .int 1)]) X.1 X.2.1 dL_holds_498 hl (by decide) rfl (fun ls hl => ?_)
      refine lv_aload_n X.1 X.2.1 dL_holds_500 rfl (lv_at hl 1 rfl) ?_
      refine k_bestShut1 (rest := []) X (by omega) o5 hP hD hS hl.1 vl_L_159 ⟨Nat.le_of_ble_eq_true rfl, Nat.le_of_ble_eq_true rfl, rfl, rfl⟩ ⟨by show _ ≤ 200; omega, by show _ ≤ 1200; omega⟩ rfl (Nat.le_of_ble_eq_true rfl) dL_holds_501 (fun w6 H locs o6 a6 hP hD hS => ?_)
      replace a6 := a6.trans a5
      refine lv_istore (lv' := [(10, .int (qBest σ.1)), (9, .int (qSpare σ.1)), (0, .ref h), (1, .int (nI (mF σ.1))), (2, .int (sX8_minutesLeft σ.1)), (3, .int (σ.1 10)), (4, .int (σ.1 12)), (5, .int (σ.1 2)), (6, .int (TKs σ.1 (mF σ.1))), (7, .int (FTs σ.1 (mF σ.1))), (8, .int 1)]) X.1 X.2.1 dL_holds_504 hl (by decide) rfl (fun ls hl => ?_)
      refine lv_iconst (v := 0) X.1 X.2.1 dL_holds_506 (by decide) ?_
      refine lv_istore (lv' := [(11, .int 0), (10, .int (qBest σ.1)), (9, .int (qSpare σ.1)), (0, .ref h), (1, .int (nI (mF σ.1))), (2, .int (sX8_minutesLeft σ.1)), (3, .int (σ.1 10)), (4, .int (σ.1 12)), (5, .int (σ.1 2)), (6, .int (TKs σ.1 (mF σ.1))), (7, .int (FTs σ.1 (mF σ.1))), (8, .int 1)]) X.1 X.2.1 dL_holds_507 hl (by decide) rfl (fun ls hl => ?_)
      refine lv_iconst (v := 0) X.1 X.2.1 dL_holds_509 (by decide) ?_
      refine lv_istore (lv' := [(12, .int 0), (11, .int 0), (10, .int (qBest σ.1)), (9, .int (qSpare σ.1)), (0, .ref h), (1, .int (nI (mF σ.1))), (2, .int (sX8_minutesLeft σ.1)), (3, .int (σ.1 10)), (4, .int (σ.1 12)), (5, .int (σ.1 2)), (6, .int (TKs σ.1 (mF σ.1))), (7, .int (FTs σ.1 (mF σ.1))), (8, .int 1)]) X.1 X.2.1 dL_holds_510 hl (by decide) rfl (fun ls hl => ?_)
      have hl : lv_has ls 17 [(12, .int (nI 0)), (11, .int (OPs σ.1 0)), (10, .int (qBest σ.1)), (9, .int (qSpare σ.1)), (0, .ref h), (1, .int (nI (mF σ.1))), (2, .int (sX8_minutesLeft σ.1)), (3, .int (σ.1 10)), (4, .int (σ.1 12)), (5, .int (σ.1 2)), (6, .int (TKs σ.1 (mF σ.1))), (7, .int (FTs σ.1 (mF σ.1))), (8, .int 1)] := hl
      refine W.widen (k := 150 + 0) (n := 900 + 6 * 0) (by omega) (by omega) ?_
      exact L2 (mF σ.1) 0 _ o6 a6  _ _ ls hP hD hS (lv_sub hl [4, 5, 6, 7, 8, 9, 10, 11, 12, 3, 2, 1, 0] rfl) (by omega)
    | succ d ih =>
      intro i w4 o4 a4  H locs ls hP hD hS hl hd
      have hi : i < mF σ.1 := by omega
      obtain ⟨fa, fb, fc, fd, fe, ff⟩ := hx_base ok okx hi
      refine lv_iload X.1 X.2.1 dL_holds_101 (lv_at hl 9 rfl) ?_
      refine lv_iload_n X.1 X.2.1 dL_holds_103 rfl (lv_at hl 1 rfl) ?_
      refine lv_icmp_ge (tgt := 494) X.1 X.2.1 dL_holds_104 (by decide) (fun c_104 => absurd c_104 (nI_ge (a := i) (b := mF σ.1) (by omega) (by omega))) (fun c_104 => ?_)
      refine lv_iload X.1 X.2.1 dL_holds_107 (lv_at hl 8 rfl) ?_
      refine lv_if_eq (tgt := 494) X.1 X.2.1 dL_holds_109 (by decide) (fun c_109 => absurd c_109 (by decide)) (fun c_109 => ?_)
      refine lv_aload_n X.1 X.2.1 dL_holds_112 rfl (lv_at hl 0 rfl) ?_
      refine lv_iconst (v := 4) X.1 X.2.1 dL_holds_113 (by decide) ?_
      refine lv_iload X.1 X.2.1 dL_holds_114 (lv_at hl 9 rfl) ?_
      refine lv_iconst (v := 0) X.1 X.2.1 dL_holds_116 (by decide) ?_
      refine lv_iconst (v := 0) X.1 X.2.1 dL_holds_117 (by decide) ?_
      rcases hx_case (by omega) ok okx hi with ⟨hd1, g1, g2⟩ | ⟨hd1, g1, g3⟩ | ⟨hd1, g1, g3, g4⟩ | ⟨hd1 | hd1, g1, g3, g4, g5⟩ | ⟨hd1 | hd1, g1, g3, g4, g5, g6⟩ | ⟨hd1, g1, g3, g4, g5, g6⟩
      · skip
        refine kG1 (rest := []) (As := [.ref h, .int 4, .int (nI i), .int 0, .int 0]) X hP hD hS hl.1 o4.len (q_does l hst G kk (by omega) o4 (nI i) 0 0 ) sl_L_138 ⟨Nat.le_of_ble_eq_true rfl, Nat.le_of_ble_eq_true rfl, rfl, rfl⟩ ⟨by show _ ≤ 200; omega, by show _ ≤ 1200; omega⟩ rfl (Nat.le_of_ble_eq_true rfl) dL_holds_118 (fun w7 r7 H locs hΦ a7 hP hD hS => ?_)
        obtain ⟨o7, rfl⟩ := hΦ
        replace a7 := a7.trans a4
        refine top_eq (y := 0) ((qd_at ok hi).trans hd1) ?_
        refine lv_istore (lv' := [(10, .int 0), (0, .ref h), (1, .int (nI (mF σ.1))), (2, .int (sX8_minutesLeft σ.1)), (3, .int (σ.1 10)), (4, .int (σ.1 12)), (5, .int (σ.1 2)), (6, .int (TKs σ.1 i)), (7, .int (FTs σ.1 i)), (8, .int 1), (9, .int (nI i))]) X.1 X.2.1 dL_holds_121 hl (by decide) rfl (fun ls hl => ?_)
        refine lv_aload_n X.1 X.2.1 dL_holds_123 rfl (lv_at hl 1 rfl) ?_
        refine lv_iconst (v := 3) X.1 X.2.1 dL_holds_124 (by decide) ?_
        refine lv_iload X.1 X.2.1 dL_holds_125 (lv_at hl 10 rfl) ?_
        refine lv_iconst (v := 3) X.1 X.2.1 dL_holds_127 (by decide) ?_
        refine lv_iconst (v := 0) X.1 X.2.1 dL_holds_128 (by decide) ?_
        refine kG1 (rest := []) (As := [.ref h, .int 3, .int (nI i), .int 3, .int 0]) X hP hD hS hl.1 o7.len (q_room l hst G kk (by omega) o7 (nI i) 3 0 ) sl_L_138 ⟨Nat.le_of_ble_eq_true rfl, Nat.le_of_ble_eq_true rfl, rfl, rfl⟩ ⟨by show _ ≤ 200; omega, by show _ ≤ 1200; omega⟩ rfl (Nat.le_of_ble_eq_true rfl) dL_holds_129 (fun w8 r8 H locs hΦ a8 hP hD hS => ?_)
        obtain ⟨o8, rfl⟩ := hΦ
        replace a8 := a8.trans a7
        refine top_eq (y := (σ.1 (16 + 8 * i + 3))) (qr_at ok (w := 3) hi (by decide)) ?_
        refine lv_istore (lv' := [(11, .int (σ.1 (16 + 8 * i + 3))), (10, .int 0), (0, .ref h), (1, .int (nI (mF σ.1))), (2, .int (sX8_minutesLeft σ.1)), (3, .int (σ.1 10)), (4, .int (σ.1 12)), (5, .int (σ.1 2)), (6, .int (TKs σ.1 i)), (7, .int (FTs σ.1 i)), (8, .int 1), (9, .int (nI i))]) X.1 X.2.1 dL_holds_132 hl (by decide) rfl (fun ls hl => ?_)
        refine lv_aload_n X.1 X.2.1 dL_holds_134 rfl (lv_at hl 2 rfl) ?_
        refine lv_iconst (v := 3) X.1 X.2.1 dL_holds_135 (by decide) ?_
        refine lv_iload X.1 X.2.1 dL_holds_136 (lv_at hl 11 rfl) ?_
        refine lv_iconst (v := 1) X.1 X.2.1 dL_holds_138 (by decide) ?_
        refine lv_iconst (v := 0) X.1 X.2.1 dL_holds_139 (by decide) ?_
        refine kG1 (rest := []) (As := [.ref h, .int 3, .int (nI i), .int 1, .int 0]) X hP hD hS hl.1 o8.len (q_room l hst G kk (by omega) o8 (nI i) 1 0 ) sl_L_138 ⟨Nat.le_of_ble_eq_true rfl, Nat.le_of_ble_eq_true rfl, rfl, rfl⟩ ⟨by show _ ≤ 200; omega, by show _ ≤ 1200; omega⟩ rfl (Nat.le_of_ble_eq_true rfl) dL_holds_140 (fun w9 r9 H locs hΦ a9 hP hD hS => ?_)
        obtain ⟨o9, rfl⟩ := hΦ
        replace a9 := a9.trans a8
        refine top_eq (y := (σ.1 (16 + 8 * i + 1))) (qr_at ok (w := 1) hi (by decide)) ?_
        refine lv_istore (lv' := [(12, .int (σ.1 (16 + 8 * i + 1))), (11, .int (σ.1 (16 + 8 * i + 3))), (10, .int 0), (0, .ref h), (1, .int (nI (mF σ.1))), (2, .int (sX8_minutesLeft σ.1)), (3, .int (σ.1 10)), (4, .int (σ.1 12)), (5, .int (σ.1 2)), (6, .int (TKs σ.1 i)), (7, .int (FTs σ.1 i)), (8, .int 1), (9, .int (nI i))]) X.1 X.2.1 dL_holds_143 hl (by decide) rfl (fun ls hl => ?_)
        refine lv_aload_n X.1 X.2.1 dL_holds_145 rfl (lv_at hl 3 rfl) ?_
        refine lv_iconst (v := 3) X.1 X.2.1 dL_holds_146 (by decide) ?_
        refine lv_iload X.1 X.2.1 dL_holds_147 (lv_at hl 12 rfl) ?_
        refine lv_iconst (v := 2) X.1 X.2.1 dL_holds_149 (by decide) ?_
        refine lv_iconst (v := 0) X.1 X.2.1 dL_holds_150 (by decide) ?_
        refine kG1 (rest := []) (As := [.ref h, .int 3, .int (nI i), .int 2, .int 0]) X hP hD hS hl.1 o9.len (q_room l hst G kk (by omega) o9 (nI i) 2 0 ) sl_L_138 ⟨Nat.le_of_ble_eq_true rfl, Nat.le_of_ble_eq_true rfl, rfl, rfl⟩ ⟨by show _ ≤ 200; omega, by show _ ≤ 1200; omega⟩ rfl (Nat.le_of_ble_eq_true rfl) dL_holds_151 (fun w10 r10 H locs hΦ a10 hP hD hS => ?_)
        obtain ⟨o10, rfl⟩ := hΦ
        replace a10 := a10.trans a9
        refine top_eq (y := (σ.1 (16 + 8 * i + 2))) (qr_at ok (w := 2) hi (by decide)) ?_
        refine lv_istore (lv' := [(13, .int (σ.1 (16 + 8 * i + 2))), (12, .int (σ.1 (16 + 8 * i + 1))), (11, .int (σ.1 (16 + 8 * i + 3))), (10, .int 0), (0, .ref h), (1, .int (nI (mF σ.1))), (2, .int (sX8_minutesLeft σ.1)), (3, .int (σ.1 10)), (4, .int (σ.1 12)), (5, .int (σ.1 2)), (6, .int (TKs σ.1 i)), (7, .int (FTs σ.1 i)), (8, .int 1), (9, .int (nI i))]) X.1 X.2.1 dL_holds_154 hl (by decide) rfl (fun ls hl => ?_)
        refine lv_aload_n X.1 X.2.1 dL_holds_156 rfl (lv_at hl 4 rfl) ?_
        refine lv_iconst (v := 3) X.1 X.2.1 dL_holds_157 (by decide) ?_
        refine lv_iload X.1 X.2.1 dL_holds_158 (lv_at hl 13 rfl) ?_
        refine lv_iconst (v := 5) X.1 X.2.1 dL_holds_160 (by decide) ?_
        refine lv_iconst (v := 0) X.1 X.2.1 dL_holds_161 (by decide) ?_
        refine kG1 (rest := []) (As := [.ref h, .int 3, .int (nI i), .int 5, .int 0]) X hP hD hS hl.1 o10.len (q_room l hst G kk (by omega) o10 (nI i) 5 0 ) sl_L_138 ⟨Nat.le_of_ble_eq_true rfl, Nat.le_of_ble_eq_true rfl, rfl, rfl⟩ ⟨by show _ ≤ 200; omega, by show _ ≤ 1200; omega⟩ rfl (Nat.le_of_ble_eq_true rfl) dL_holds_162 (fun w11 r11 H locs hΦ a11 hP hD hS => ?_)
        obtain ⟨o11, rfl⟩ := hΦ
        replace a11 := a11.trans a10
        refine top_eq (y := (σ.1 (16 + 8 * i + 5))) (qr_at ok (w := 5) hi (by decide)) ?_
        refine lv_istore (lv' := [(14, .int (σ.1 (16 + 8 * i + 5))), (13, .int (σ.1 (16 + 8 * i + 2))), (12, .int (σ.1 (16 + 8 * i + 1))), (11, .int (σ.1 (16 + 8 * i + 3))), (10, .int 0), (0, .ref h), (1, .int (nI (mF σ.1))), (2, .int (sX8_minutesLeft σ.1)), (3, .int (σ.1 10)), (4, .int (σ.1 12)), (5, .int (σ.1 2)), (6, .int (TKs σ.1 i)), (7, .int (FTs σ.1 i)), (8, .int 1), (9, .int (nI i))]) X.1 X.2.1 dL_holds_165 hl (by decide) rfl (fun ls hl => ?_)
        refine lv_aload_n X.1 X.2.1 dL_holds_167 rfl (lv_at hl 5 rfl) ?_
        refine lv_iconst (v := 3) X.1 X.2.1 dL_holds_168 (by decide) ?_
        refine lv_iload X.1 X.2.1 dL_holds_169 (lv_at hl 14 rfl) ?_
        refine lv_bipush (v := 6) X.1 X.2.1 dL_holds_171 (by decide) ?_
        refine lv_iconst (v := 0) X.1 X.2.1 dL_holds_173 (by decide) ?_
        refine kG1 (rest := []) (As := [.ref h, .int 3, .int (nI i), .int 6, .int 0]) X hP hD hS hl.1 o11.len (q_room l hst G kk (by omega) o11 (nI i) 6 0 ) sl_L_138 ⟨Nat.le_of_ble_eq_true rfl, Nat.le_of_ble_eq_true rfl, rfl, rfl⟩ ⟨by show _ ≤ 200; omega, by show _ ≤ 1200; omega⟩ rfl (Nat.le_of_ble_eq_true rfl) dL_holds_174 (fun w12 r12 H locs hΦ a12 hP hD hS => ?_)
        obtain ⟨o12, rfl⟩ := hΦ
        replace a12 := a12.trans a11
        refine top_eq (y := (σ.1 (16 + 8 * i + 6))) (qr_at ok (w := 6) hi (by decide)) ?_
        refine lv_istore (lv' := [(15, .int (σ.1 (16 + 8 * i + 6))), (14, .int (σ.1 (16 + 8 * i + 5))), (13, .int (σ.1 (16 + 8 * i + 2))), (12, .int (σ.1 (16 + 8 * i + 1))), (11, .int (σ.1 (16 + 8 * i + 3))), (10, .int 0), (0, .ref h), (1, .int (nI (mF σ.1))), (2, .int (sX8_minutesLeft σ.1)), (3, .int (σ.1 10)), (4, .int (σ.1 12)), (5, .int (σ.1 2)), (6, .int (TKs σ.1 i)), (7, .int (FTs σ.1 i)), (8, .int 1), (9, .int (nI i))]) X.1 X.2.1 dL_holds_177 hl (by decide) rfl (fun ls hl => ?_)
        refine lv_iload X.1 X.2.1 dL_holds_179 (lv_at hl 5 rfl) ?_
        refine lv_iconst (v := 1) X.1 X.2.1 dL_holds_181 (by decide) ?_
        refine lv_icmp_eq (tgt := 191) X.1 X.2.1 dL_holds_182 (by decide) (fun c_182 => absurd c_182 (by decide)) (fun c_182 => ?_)
        refine lv_iload X.1 X.2.1 dL_holds_185 (lv_at hl 5 rfl) ?_
        refine lv_iconst (v := 3) X.1 X.2.1 dL_holds_187 (by decide) ?_
        refine lv_icmp_ne (tgt := 203) X.1 X.2.1 dL_holds_188 (by decide) (fun c_188 => ?_) (fun c_188 => absurd c_188 (by decide))
        refine lv_iload X.1 X.2.1 dL_holds_203 (lv_at hl 5 rfl) ?_
        refine lv_if_eq (tgt := 220) X.1 X.2.1 dL_holds_205 (by decide) (fun c_205 => ?_) (fun c_205 => absurd (by decide) c_205)
        refine lv_aload_n X.1 X.2.1 dL_holds_220 rfl (lv_at hl 6 rfl) ?_
        refine lv_iconst (v := 5) X.1 X.2.1 dL_holds_221 (by decide) ?_
        refine lv_iconst (v := 3) X.1 X.2.1 dL_holds_222 (by decide) ?_
        refine lv_iconst (v := 0) X.1 X.2.1 dL_holds_223 (by decide) ?_
        refine lv_iconst (v := 0) X.1 X.2.1 dL_holds_224 (by decide) ?_
        refine kG1 (rest := []) (As := [.ref h, .int 5, .int 3, .int 0, .int 0]) X hP hD hS hl.1 o12.len (q_setting l hst G kk (by omega) o12 3 0 0 ) sl_L_138 ⟨Nat.le_of_ble_eq_true rfl, Nat.le_of_ble_eq_true rfl, rfl, rfl⟩ ⟨by show _ ≤ 200; omega, by show _ ≤ 1200; omega⟩ rfl (Nat.le_of_ble_eq_true rfl) dL_holds_225 (fun w13 r13 H locs hΦ a13 hP hD hS => ?_)
        obtain ⟨o13, rfl⟩ := hΦ
        replace a13 := a13.trans a12
        refine top_eq (y := (σ.1 13)) (qs_3 σ.1) ?_
        refine lv_goto (tgt := 232) X.1 X.2.1 dL_holds_228 (by decide) ?_
        refine lv_istore (lv' := [(16, .int (σ.1 13)), (15, .int (σ.1 (16 + 8 * i + 6))), (14, .int (σ.1 (16 + 8 * i + 5))), (13, .int (σ.1 (16 + 8 * i + 2))), (12, .int (σ.1 (16 + 8 * i + 1))), (11, .int (σ.1 (16 + 8 * i + 3))), (10, .int 0), (0, .ref h), (1, .int (nI (mF σ.1))), (2, .int (sX8_minutesLeft σ.1)), (3, .int (σ.1 10)), (4, .int (σ.1 12)), (5, .int (σ.1 2)), (6, .int (TKs σ.1 i)), (7, .int (FTs σ.1 i)), (8, .int 1), (9, .int (nI i))]) X.1 X.2.1 dL_holds_232 hl (by decide) rfl (fun ls hl => ?_)
        refine lv_iload X.1 X.2.1 dL_holds_234 (lv_at hl 13 rfl) ?_
        refine lv_iload X.1 X.2.1 dL_holds_236 (lv_at hl 0 rfl) ?_
        refine lv_iadd X.1 X.2.1 dL_holds_238 ?_
        refine top_eq (y := (TKs σ.1 (i + 1))) (by show _ = TKs σ.1 i + LDj σ.1 (JB σ.1 i) i; rw [hd1]; rfl) ?_
        refine lv_istore (lv' := [(6, .int (TKs σ.1 (i + 1))), (16, .int (σ.1 13)), (15, .int (σ.1 (16 + 8 * i + 6))), (14, .int (σ.1 (16 + 8 * i + 5))), (13, .int (σ.1 (16 + 8 * i + 2))), (12, .int (σ.1 (16 + 8 * i + 1))), (11, .int (σ.1 (16 + 8 * i + 3))), (10, .int 0), (0, .ref h), (1, .int (nI (mF σ.1))), (2, .int (sX8_minutesLeft σ.1)), (3, .int (σ.1 10)), (4, .int (σ.1 12)), (5, .int (σ.1 2)), (7, .int (FTs σ.1 i)), (8, .int 1), (9, .int (nI i))]) X.1 X.2.1 dL_holds_239 hl (by decide) rfl (fun ls hl => ?_)
        refine lv_iload X.1 X.2.1 dL_holds_241 (lv_at hl 14 rfl) ?_
        refine lv_iload X.1 X.2.1 dL_holds_243 (lv_at hl 7 rfl) ?_
        refine lv_iconst (v := 3) X.1 X.2.1 dL_holds_245 (by decide) ?_
        refine lv_icmp_eq (tgt := 255) X.1 X.2.1 dL_holds_246 (by decide) (fun c_246 => absurd c_246 (by decide)) (fun c_246 => ?_)
        refine lv_iload X.1 X.2.1 dL_holds_249 (lv_at hl 7 rfl) ?_
        refine lv_iconst (v := 5) X.1 X.2.1 dL_holds_251 (by decide) ?_
        refine lv_icmp_ne (tgt := 259) X.1 X.2.1 dL_holds_252 (by decide) (fun c_252 => ?_) (fun c_252 => absurd c_252 (by decide))
        refine lv_iconst (v := 0) X.1 X.2.1 dL_holds_259 (by decide) ?_
        refine lv_iadd X.1 X.2.1 dL_holds_260 ?_
        refine top_eq (y := (FTs σ.1 (i + 1))) (by show _ = FTs σ.1 i + (if JB σ.1 i = 3 ∨ JB σ.1 i = 5 then 1 else 0); rw [hd1]; rfl) ?_
        refine lv_istore (lv' := [(7, .int (FTs σ.1 (i + 1))), (6, .int (TKs σ.1 (i + 1))), (16, .int (σ.1 13)), (15, .int (σ.1 (16 + 8 * i + 6))), (14, .int (σ.1 (16 + 8 * i + 5))), (13, .int (σ.1 (16 + 8 * i + 2))), (12, .int (σ.1 (16 + 8 * i + 1))), (11, .int (σ.1 (16 + 8 * i + 3))), (10, .int 0), (0, .ref h), (1, .int (nI (mF σ.1))), (2, .int (sX8_minutesLeft σ.1)), (3, .int (σ.1 10)), (4, .int (σ.1 12)), (5, .int (σ.1 2)), (8, .int 1), (9, .int (nI i))]) X.1 X.2.1 dL_holds_261 hl (by decide) rfl (fun ls hl => ?_)
        refine lv_iload X.1 X.2.1 dL_holds_263 (lv_at hl 6 rfl) ?_
        refine lv_iload X.1 X.2.1 dL_holds_265 (lv_at hl 5 rfl) ?_
        refine lv_icmp_ge (tgt := 485) X.1 X.2.1 dL_holds_267 (by decide) (fun c_267 => absurd c_267 (fa)) (fun c_267 => ?_)
        refine lv_iload X.1 X.2.1 dL_holds_270 (lv_at hl 7 rfl) ?_
        refine lv_sipush (v := (-400)) X.1 X.2.1 dL_holds_272 (by decide) ?_
        refine lv_icmp_lt (tgt := 485) X.1 X.2.1 dL_holds_275 (by decide) (fun c_275 => absurd c_275 (fb)) (fun c_275 => ?_)
        refine lv_iload X.1 X.2.1 dL_holds_278 (lv_at hl 7 rfl) ?_
        refine lv_sipush (v := 400) X.1 X.2.1 dL_holds_280 (by decide) ?_
        refine lv_icmp_gt (tgt := 485) X.1 X.2.1 dL_holds_283 (by decide) (fun c_283 => absurd c_283 (fc)) (fun c_283 => ?_)
        refine lv_iload X.1 X.2.1 dL_holds_286 (lv_at hl 4 rfl) ?_
        refine lv_if_lt (tgt := 485) X.1 X.2.1 dL_holds_288 (by decide) (fun c_288 => absurd c_288 (fd)) (fun c_288 => ?_)
        refine lv_iload X.1 X.2.1 dL_holds_291 (lv_at hl 4 rfl) ?_
        refine lv_bipush (v := 100) X.1 X.2.1 dL_holds_293 (by decide) ?_
        refine lv_icmp_gt (tgt := 485) X.1 X.2.1 dL_holds_295 (by decide) (fun c_295 => absurd c_295 (fe)) (fun c_295 => ?_)
        refine lv_iload X.1 X.2.1 dL_holds_298 (lv_at hl 3 rfl) ?_
        refine lv_if_lt (tgt := 485) X.1 X.2.1 dL_holds_300 (by decide) (fun c_300 => absurd c_300 (ff)) (fun c_300 => ?_)
        refine lv_iload X.1 X.2.1 dL_holds_303 (lv_at hl 8 rfl) ?_
        refine lv_if_ne (tgt := 312) X.1 X.2.1 dL_holds_305 (by decide) (fun c_305 => absurd (by decide) c_305) (fun c_305 => ?_)
        refine lv_iconst (v := 1) X.1 X.2.1 dL_holds_308 (by decide) ?_
        refine lv_goto (tgt := 313) X.1 X.2.1 dL_holds_309 (by decide) ?_
        refine lv_iload X.1 X.2.1 dL_holds_313 (lv_at hl 3 rfl) ?_
        refine lv_if_le (tgt := 322) X.1 X.2.1 dL_holds_315 (by decide) (fun c_315 => absurd c_315 (g1)) (fun c_315 => ?_)
        refine lv_iconst (v := 1) X.1 X.2.1 dL_holds_318 (by decide) ?_
        refine lv_goto (tgt := 323) X.1 X.2.1 dL_holds_319 (by decide) ?_
        refine lv_icmp_ne (tgt := 485) X.1 X.2.1 dL_holds_323 (by decide) (fun c_323 => absurd (by decide) c_323) (fun c_323 => ?_)
        refine lv_iload X.1 X.2.1 dL_holds_326 (lv_at hl 8 rfl) ?_
        refine lv_iconst (v := 1) X.1 X.2.1 dL_holds_328 (by decide) ?_
        refine lv_icmp_ne (tgt := 336) X.1 X.2.1 dL_holds_329 (by decide) (fun c_329 => ?_) (fun c_329 => absurd c_329 (by decide))
        refine lv_iconst (v := 0) X.1 X.2.1 dL_holds_336 (by decide) ?_
        refine lv_iload X.1 X.2.1 dL_holds_337 (lv_at hl 3 rfl) ?_
        refine lv_if_ne (tgt := 353) X.1 X.2.1 dL_holds_339 (by decide) (fun c_339 => ?_) (fun c_339 => absurd c_339 (g2))
        refine lv_iconst (v := 0) X.1 X.2.1 dL_holds_353 (by decide) ?_
        refine lv_icmp_ne (tgt := 485) X.1 X.2.1 dL_holds_354 (by decide) (fun c_354 => absurd (by decide) c_354) (fun c_354 => ?_)
        refine lv_iload X.1 X.2.1 dL_holds_357 (lv_at hl 8 rfl) ?_
        refine lv_iconst (v := 2) X.1 X.2.1 dL_holds_359 (by decide) ?_
        refine lv_icmp_ne (tgt := 367) X.1 X.2.1 dL_holds_360 (by decide) (fun c_360 => ?_) (fun c_360 => absurd c_360 (by decide))
        refine lv_iconst (v := 0) X.1 X.2.1 dL_holds_367 (by decide) ?_
        refine lv_iload X.1 X.2.1 dL_holds_368 (lv_at hl 3 rfl) ?_
        refine lv_if_ne (tgt := 391) X.1 X.2.1 dL_holds_370 (by decide) (fun c_370 => ?_) (fun c_370 => absurd c_370 (g2))
        refine lv_iconst (v := 0) X.1 X.2.1 dL_holds_391 (by decide) ?_
        refine lv_icmp_ne (tgt := 485) X.1 X.2.1 dL_holds_392 (by decide) (fun c_392 => absurd (by decide) c_392) (fun c_392 => ?_)
        refine lv_iload X.1 X.2.1 dL_holds_395 (lv_at hl 8 rfl) ?_
        refine lv_iconst (v := 3) X.1 X.2.1 dL_holds_397 (by decide) ?_
        refine lv_icmp_eq (tgt := 407) X.1 X.2.1 dL_holds_398 (by decide) (fun c_398 => absurd c_398 (by decide)) (fun c_398 => ?_)
        refine lv_iload X.1 X.2.1 dL_holds_401 (lv_at hl 8 rfl) ?_
        refine lv_iconst (v := 4) X.1 X.2.1 dL_holds_403 (by decide) ?_
        refine lv_icmp_ne (tgt := 421) X.1 X.2.1 dL_holds_404 (by decide) (fun c_404 => ?_) (fun c_404 => absurd c_404 (by decide))
        refine lv_iload X.1 X.2.1 dL_holds_421 (lv_at hl 8 rfl) ?_
        refine lv_iconst (v := 5) X.1 X.2.1 dL_holds_423 (by decide) ?_
        refine lv_icmp_eq (tgt := 434) X.1 X.2.1 dL_holds_424 (by decide) (fun c_424 => absurd c_424 (by decide)) (fun c_424 => ?_)
        refine lv_iload X.1 X.2.1 dL_holds_427 (lv_at hl 8 rfl) ?_
        refine lv_bipush (v := 6) X.1 X.2.1 dL_holds_429 (by decide) ?_
        refine lv_icmp_ne (tgt := 454) X.1 X.2.1 dL_holds_431 (by decide) (fun c_431 => ?_) (fun c_431 => absurd c_431 (by decide))
        refine lv_iload X.1 X.2.1 dL_holds_454 (lv_at hl 8 rfl) ?_
        refine lv_bipush (v := 7) X.1 X.2.1 dL_holds_456 (by decide) ?_
        refine lv_icmp_ne (tgt := 481) X.1 X.2.1 dL_holds_458 (by decide) (fun c_458 => ?_) (fun c_458 => absurd c_458 (by decide))
        refine lv_iconst (v := 1) X.1 X.2.1 dL_holds_481 (by decide) ?_
        refine lv_goto (tgt := 486) X.1 X.2.1 dL_holds_482 (by decide) ?_
        refine lv_istore (lv' := [(8, .int 1), (7, .int (FTs σ.1 (i + 1))), (6, .int (TKs σ.1 (i + 1))), (16, .int (σ.1 13)), (15, .int (σ.1 (16 + 8 * i + 6))), (14, .int (σ.1 (16 + 8 * i + 5))), (13, .int (σ.1 (16 + 8 * i + 2))), (12, .int (σ.1 (16 + 8 * i + 1))), (11, .int (σ.1 (16 + 8 * i + 3))), (10, .int 0), (0, .ref h), (1, .int (nI (mF σ.1))), (2, .int (sX8_minutesLeft σ.1)), (3, .int (σ.1 10)), (4, .int (σ.1 12)), (5, .int (σ.1 2)), (9, .int (nI i))]) X.1 X.2.1 dL_holds_486 hl (by decide) rfl (fun ls hl => ?_)
        refine lv_iinc (v := (nI (i + 1))) (lv' := [(9, .int (nI (i + 1))), (8, .int 1), (7, .int (FTs σ.1 (i + 1))), (6, .int (TKs σ.1 (i + 1))), (16, .int (σ.1 13)), (15, .int (σ.1 (16 + 8 * i + 6))), (14, .int (σ.1 (16 + 8 * i + 5))), (13, .int (σ.1 (16 + 8 * i + 2))), (12, .int (σ.1 (16 + 8 * i + 1))), (11, .int (σ.1 (16 + 8 * i + 3))), (10, .int 0), (0, .ref h), (1, .int (nI (mF σ.1))), (2, .int (sX8_minutesLeft σ.1)), (3, .int (σ.1 10)), (4, .int (σ.1 12)), (5, .int (σ.1 2))]) X.1 X.2.1 dL_holds_488 hl (k := 16) rfl (nI_add i 1) (by decide) rfl (fun ls hl => ?_)
        refine lv_goto (tgt := 101) X.1 X.2.1 dL_holds_491 (by decide) ?_
        refine W.widen (k := 20 + 20 * (i + 1)) (n := 120 + 120 * (i + 1)) (by omega) (by omega) ?_
        exact ih (i + 1) _ o13 a13  _ _ ls hP hD hS (lv_sub hl [11, 12, 13, 14, 15, 16, 3, 2, 1, 0] rfl) (by omega)
      · skip
        refine kG1 (rest := []) (As := [.ref h, .int 4, .int (nI i), .int 0, .int 0]) X hP hD hS hl.1 o4.len (q_does l hst G kk (by omega) o4 (nI i) 0 0 ) sl_L_138 ⟨Nat.le_of_ble_eq_true rfl, Nat.le_of_ble_eq_true rfl, rfl, rfl⟩ ⟨by show _ ≤ 200; omega, by show _ ≤ 1200; omega⟩ rfl (Nat.le_of_ble_eq_true rfl) dL_holds_118 (fun w14 r14 H locs hΦ a14 hP hD hS => ?_)
        obtain ⟨o14, rfl⟩ := hΦ
        replace a14 := a14.trans a4
        refine top_eq (y := 1) ((qd_at ok hi).trans hd1) ?_
        refine lv_istore (lv' := [(10, .int 1), (0, .ref h), (1, .int (nI (mF σ.1))), (2, .int (sX8_minutesLeft σ.1)), (3, .int (σ.1 10)), (4, .int (σ.1 12)), (5, .int (σ.1 2)), (6, .int (TKs σ.1 i)), (7, .int (FTs σ.1 i)), (8, .int 1), (9, .int (nI i))]) X.1 X.2.1 dL_holds_121 hl (by decide) rfl (fun ls hl => ?_)
        refine lv_aload_n X.1 X.2.1 dL_holds_123 rfl (lv_at hl 1 rfl) ?_
        refine lv_iconst (v := 3) X.1 X.2.1 dL_holds_124 (by decide) ?_
        refine lv_iload X.1 X.2.1 dL_holds_125 (lv_at hl 10 rfl) ?_
        refine lv_iconst (v := 3) X.1 X.2.1 dL_holds_127 (by decide) ?_
        refine lv_iconst (v := 0) X.1 X.2.1 dL_holds_128 (by decide) ?_
        refine kG1 (rest := []) (As := [.ref h, .int 3, .int (nI i), .int 3, .int 0]) X hP hD hS hl.1 o14.len (q_room l hst G kk (by omega) o14 (nI i) 3 0 ) sl_L_138 ⟨Nat.le_of_ble_eq_true rfl, Nat.le_of_ble_eq_true rfl, rfl, rfl⟩ ⟨by show _ ≤ 200; omega, by show _ ≤ 1200; omega⟩ rfl (Nat.le_of_ble_eq_true rfl) dL_holds_129 (fun w15 r15 H locs hΦ a15 hP hD hS => ?_)
        obtain ⟨o15, rfl⟩ := hΦ
        replace a15 := a15.trans a14
        refine top_eq (y := (σ.1 (16 + 8 * i + 3))) (qr_at ok (w := 3) hi (by decide)) ?_
        refine lv_istore (lv' := [(11, .int (σ.1 (16 + 8 * i + 3))), (10, .int 1), (0, .ref h), (1, .int (nI (mF σ.1))), (2, .int (sX8_minutesLeft σ.1)), (3, .int (σ.1 10)), (4, .int (σ.1 12)), (5, .int (σ.1 2)), (6, .int (TKs σ.1 i)), (7, .int (FTs σ.1 i)), (8, .int 1), (9, .int (nI i))]) X.1 X.2.1 dL_holds_132 hl (by decide) rfl (fun ls hl => ?_)
        refine lv_aload_n X.1 X.2.1 dL_holds_134 rfl (lv_at hl 2 rfl) ?_
        refine lv_iconst (v := 3) X.1 X.2.1 dL_holds_135 (by decide) ?_
        refine lv_iload X.1 X.2.1 dL_holds_136 (lv_at hl 11 rfl) ?_
        refine lv_iconst (v := 1) X.1 X.2.1 dL_holds_138 (by decide) ?_
        refine lv_iconst (v := 0) X.1 X.2.1 dL_holds_139 (by decide) ?_
        refine kG1 (rest := []) (As := [.ref h, .int 3, .int (nI i), .int 1, .int 0]) X hP hD hS hl.1 o15.len (q_room l hst G kk (by omega) o15 (nI i) 1 0 ) sl_L_138 ⟨Nat.le_of_ble_eq_true rfl, Nat.le_of_ble_eq_true rfl, rfl, rfl⟩ ⟨by show _ ≤ 200; omega, by show _ ≤ 1200; omega⟩ rfl (Nat.le_of_ble_eq_true rfl) dL_holds_140 (fun w16 r16 H locs hΦ a16 hP hD hS => ?_)
        obtain ⟨o16, rfl⟩ := hΦ
        replace a16 := a16.trans a15
        refine top_eq (y := (σ.1 (16 + 8 * i + 1))) (qr_at ok (w := 1) hi (by decide)) ?_
        refine lv_istore (lv' := [(12, .int (σ.1 (16 + 8 * i + 1))), (11, .int (σ.1 (16 + 8 * i + 3))), (10, .int 1), (0, .ref h), (1, .int (nI (mF σ.1))), (2, .int (sX8_minutesLeft σ.1)), (3, .int (σ.1 10)), (4, .int (σ.1 12)), (5, .int (σ.1 2)), (6, .int (TKs σ.1 i)), (7, .int (FTs σ.1 i)), (8, .int 1), (9, .int (nI i))]) X.1 X.2.1 dL_holds_143 hl (by decide) rfl (fun ls hl => ?_)
        refine lv_aload_n X.1 X.2.1 dL_holds_145 rfl (lv_at hl 3 rfl) ?_
        refine lv_iconst (v := 3) X.1 X.2.1 dL_holds_146 (by decide) ?_
        refine lv_iload X.1 X.2.1 dL_holds_147 (lv_at hl 12 rfl) ?_
        refine lv_iconst (v := 2) X.1 X.2.1 dL_holds_149 (by decide) ?_
        refine lv_iconst (v := 0) X.1 X.2.1 dL_holds_150 (by decide) ?_
        refine kG1 (rest := []) (As := [.ref h, .int 3, .int (nI i), .int 2, .int 0]) X hP hD hS hl.1 o16.len (q_room l hst G kk (by omega) o16 (nI i) 2 0 ) sl_L_138 ⟨Nat.le_of_ble_eq_true rfl, Nat.le_of_ble_eq_true rfl, rfl, rfl⟩ ⟨by show _ ≤ 200; omega, by show _ ≤ 1200; omega⟩ rfl (Nat.le_of_ble_eq_true rfl) dL_holds_151 (fun w17 r17 H locs hΦ a17 hP hD hS => ?_)
        obtain ⟨o17, rfl⟩ := hΦ
        replace a17 := a17.trans a16
        refine top_eq (y := (σ.1 (16 + 8 * i + 2))) (qr_at ok (w := 2) hi (by decide)) ?_
        refine lv_istore (lv' := [(13, .int (σ.1 (16 + 8 * i + 2))), (12, .int (σ.1 (16 + 8 * i + 1))), (11, .int (σ.1 (16 + 8 * i + 3))), (10, .int 1), (0, .ref h), (1, .int (nI (mF σ.1))), (2, .int (sX8_minutesLeft σ.1)), (3, .int (σ.1 10)), (4, .int (σ.1 12)), (5, .int (σ.1 2)), (6, .int (TKs σ.1 i)), (7, .int (FTs σ.1 i)), (8, .int 1), (9, .int (nI i))]) X.1 X.2.1 dL_holds_154 hl (by decide) rfl (fun ls hl => ?_)
        refine lv_aload_n X.1 X.2.1 dL_holds_156 rfl (lv_at hl 4 rfl) ?_
        refine lv_iconst (v := 3) X.1 X.2.1 dL_holds_157 (by decide) ?_
        refine lv_iload X.1 X.2.1 dL_holds_158 (lv_at hl 13 rfl) ?_
        refine lv_iconst (v := 5) X.1 X.2.1 dL_holds_160 (by decide) ?_
        refine lv_iconst (v := 0) X.1 X.2.1 dL_holds_161 (by decide) ?_
        refine kG1 (rest := []) (As := [.ref h, .int 3, .int (nI i), .int 5, .int 0]) X hP hD hS hl.1 o17.len (q_room l hst G kk (by omega) o17 (nI i) 5 0 ) sl_L_138 ⟨Nat.le_of_ble_eq_true rfl, Nat.le_of_ble_eq_true rfl, rfl, rfl⟩ ⟨by show _ ≤ 200; omega, by show _ ≤ 1200; omega⟩ rfl (Nat.le_of_ble_eq_true rfl) dL_holds_162 (fun w18 r18 H locs hΦ a18 hP hD hS => ?_)
        obtain ⟨o18, rfl⟩ := hΦ
        replace a18 := a18.trans a17
        refine top_eq (y := (σ.1 (16 + 8 * i + 5))) (qr_at ok (w := 5) hi (by decide)) ?_
        refine lv_istore (lv' := [(14, .int (σ.1 (16 + 8 * i + 5))), (13, .int (σ.1 (16 + 8 * i + 2))), (12, .int (σ.1 (16 + 8 * i + 1))), (11, .int (σ.1 (16 + 8 * i + 3))), (10, .int 1), (0, .ref h), (1, .int (nI (mF σ.1))), (2, .int (sX8_minutesLeft σ.1)), (3, .int (σ.1 10)), (4, .int (σ.1 12)), (5, .int (σ.1 2)), (6, .int (TKs σ.1 i)), (7, .int (FTs σ.1 i)), (8, .int 1), (9, .int (nI i))]) X.1 X.2.1 dL_holds_165 hl (by decide) rfl (fun ls hl => ?_)
        refine lv_aload_n X.1 X.2.1 dL_holds_167 rfl (lv_at hl 5 rfl) ?_
        refine lv_iconst (v := 3) X.1 X.2.1 dL_holds_168 (by decide) ?_
        refine lv_iload X.1 X.2.1 dL_holds_169 (lv_at hl 14 rfl) ?_
        refine lv_bipush (v := 6) X.1 X.2.1 dL_holds_171 (by decide) ?_
        refine lv_iconst (v := 0) X.1 X.2.1 dL_holds_173 (by decide) ?_
        refine kG1 (rest := []) (As := [.ref h, .int 3, .int (nI i), .int 6, .int 0]) X hP hD hS hl.1 o18.len (q_room l hst G kk (by omega) o18 (nI i) 6 0 ) sl_L_138 ⟨Nat.le_of_ble_eq_true rfl, Nat.le_of_ble_eq_true rfl, rfl, rfl⟩ ⟨by show _ ≤ 200; omega, by show _ ≤ 1200; omega⟩ rfl (Nat.le_of_ble_eq_true rfl) dL_holds_174 (fun w19 r19 H locs hΦ a19 hP hD hS => ?_)
        obtain ⟨o19, rfl⟩ := hΦ
        replace a19 := a19.trans a18
        refine top_eq (y := (σ.1 (16 + 8 * i + 6))) (qr_at ok (w := 6) hi (by decide)) ?_
        refine lv_istore (lv' := [(15, .int (σ.1 (16 + 8 * i + 6))), (14, .int (σ.1 (16 + 8 * i + 5))), (13, .int (σ.1 (16 + 8 * i + 2))), (12, .int (σ.1 (16 + 8 * i + 1))), (11, .int (σ.1 (16 + 8 * i + 3))), (10, .int 1), (0, .ref h), (1, .int (nI (mF σ.1))), (2, .int (sX8_minutesLeft σ.1)), (3, .int (σ.1 10)), (4, .int (σ.1 12)), (5, .int (σ.1 2)), (6, .int (TKs σ.1 i)), (7, .int (FTs σ.1 i)), (8, .int 1), (9, .int (nI i))]) X.1 X.2.1 dL_holds_177 hl (by decide) rfl (fun ls hl => ?_)
        refine lv_iload X.1 X.2.1 dL_holds_179 (lv_at hl 5 rfl) ?_
        refine lv_iconst (v := 1) X.1 X.2.1 dL_holds_181 (by decide) ?_
        refine lv_icmp_eq (tgt := 191) X.1 X.2.1 dL_holds_182 (by decide) (fun c_182 => ?_) (fun c_182 => absurd (by decide) c_182)
        refine lv_aload_n X.1 X.2.1 dL_holds_191 rfl (lv_at hl 6 rfl) ?_
        refine lv_iconst (v := 3) X.1 X.2.1 dL_holds_192 (by decide) ?_
        refine lv_iload X.1 X.2.1 dL_holds_193 (lv_at hl 15 rfl) ?_
        refine lv_iconst (v := 0) X.1 X.2.1 dL_holds_195 (by decide) ?_
        refine lv_iconst (v := 0) X.1 X.2.1 dL_holds_196 (by decide) ?_
        refine kG1 (rest := []) (As := [.ref h, .int 3, .int (nI i), .int 0, .int 0]) X hP hD hS hl.1 o19.len (q_room l hst G kk (by omega) o19 (nI i) 0 0 ) sl_L_138 ⟨Nat.le_of_ble_eq_true rfl, Nat.le_of_ble_eq_true rfl, rfl, rfl⟩ ⟨by show _ ≤ 200; omega, by show _ ≤ 1200; omega⟩ rfl (Nat.le_of_ble_eq_true rfl) dL_holds_197 (fun w20 r20 H locs hΦ a20 hP hD hS => ?_)
        obtain ⟨o20, rfl⟩ := hΦ
        replace a20 := a20.trans a19
        refine top_eq (y := (σ.1 (16 + 8 * i))) (qr_at ok (w := 0) hi (by decide)) ?_
        refine lv_goto (tgt := 232) X.1 X.2.1 dL_holds_200 (by decide) ?_
        refine lv_istore (lv' := [(16, .int (σ.1 (16 + 8 * i))), (15, .int (σ.1 (16 + 8 * i + 6))), (14, .int (σ.1 (16 + 8 * i + 5))), (13, .int (σ.1 (16 + 8 * i + 2))), (12, .int (σ.1 (16 + 8 * i + 1))), (11, .int (σ.1 (16 + 8 * i + 3))), (10, .int 1), (0, .ref h), (1, .int (nI (mF σ.1))), (2, .int (sX8_minutesLeft σ.1)), (3, .int (σ.1 10)), (4, .int (σ.1 12)), (5, .int (σ.1 2)), (6, .int (TKs σ.1 i)), (7, .int (FTs σ.1 i)), (8, .int 1), (9, .int (nI i))]) X.1 X.2.1 dL_holds_232 hl (by decide) rfl (fun ls hl => ?_)
        refine lv_iload X.1 X.2.1 dL_holds_234 (lv_at hl 13 rfl) ?_
        refine lv_iload X.1 X.2.1 dL_holds_236 (lv_at hl 0 rfl) ?_
        refine lv_iadd X.1 X.2.1 dL_holds_238 ?_
        refine top_eq (y := (TKs σ.1 (i + 1))) (by show _ = TKs σ.1 i + LDj σ.1 (JB σ.1 i) i; rw [hd1]; rfl) ?_
        refine lv_istore (lv' := [(6, .int (TKs σ.1 (i + 1))), (16, .int (σ.1 (16 + 8 * i))), (15, .int (σ.1 (16 + 8 * i + 6))), (14, .int (σ.1 (16 + 8 * i + 5))), (13, .int (σ.1 (16 + 8 * i + 2))), (12, .int (σ.1 (16 + 8 * i + 1))), (11, .int (σ.1 (16 + 8 * i + 3))), (10, .int 1), (0, .ref h), (1, .int (nI (mF σ.1))), (2, .int (sX8_minutesLeft σ.1)), (3, .int (σ.1 10)), (4, .int (σ.1 12)), (5, .int (σ.1 2)), (7, .int (FTs σ.1 i)), (8, .int 1), (9, .int (nI i))]) X.1 X.2.1 dL_holds_239 hl (by decide) rfl (fun ls hl => ?_)
        refine lv_iload X.1 X.2.1 dL_holds_241 (lv_at hl 14 rfl) ?_
        refine lv_iload X.1 X.2.1 dL_holds_243 (lv_at hl 7 rfl) ?_
        refine lv_iconst (v := 3) X.1 X.2.1 dL_holds_245 (by decide) ?_
        refine lv_icmp_eq (tgt := 255) X.1 X.2.1 dL_holds_246 (by decide) (fun c_246 => absurd c_246 (by decide)) (fun c_246 => ?_)
        refine lv_iload X.1 X.2.1 dL_holds_249 (lv_at hl 7 rfl) ?_
        refine lv_iconst (v := 5) X.1 X.2.1 dL_holds_251 (by decide) ?_
        refine lv_icmp_ne (tgt := 259) X.1 X.2.1 dL_holds_252 (by decide) (fun c_252 => ?_) (fun c_252 => absurd c_252 (by decide))
        refine lv_iconst (v := 0) X.1 X.2.1 dL_holds_259 (by decide) ?_
        refine lv_iadd X.1 X.2.1 dL_holds_260 ?_
        refine top_eq (y := (FTs σ.1 (i + 1))) (by show _ = FTs σ.1 i + (if JB σ.1 i = 3 ∨ JB σ.1 i = 5 then 1 else 0); rw [hd1]; rfl) ?_
        refine lv_istore (lv' := [(7, .int (FTs σ.1 (i + 1))), (6, .int (TKs σ.1 (i + 1))), (16, .int (σ.1 (16 + 8 * i))), (15, .int (σ.1 (16 + 8 * i + 6))), (14, .int (σ.1 (16 + 8 * i + 5))), (13, .int (σ.1 (16 + 8 * i + 2))), (12, .int (σ.1 (16 + 8 * i + 1))), (11, .int (σ.1 (16 + 8 * i + 3))), (10, .int 1), (0, .ref h), (1, .int (nI (mF σ.1))), (2, .int (sX8_minutesLeft σ.1)), (3, .int (σ.1 10)), (4, .int (σ.1 12)), (5, .int (σ.1 2)), (8, .int 1), (9, .int (nI i))]) X.1 X.2.1 dL_holds_261 hl (by decide) rfl (fun ls hl => ?_)
        refine lv_iload X.1 X.2.1 dL_holds_263 (lv_at hl 6 rfl) ?_
        refine lv_iload X.1 X.2.1 dL_holds_265 (lv_at hl 5 rfl) ?_
        refine lv_icmp_ge (tgt := 485) X.1 X.2.1 dL_holds_267 (by decide) (fun c_267 => absurd c_267 (fa)) (fun c_267 => ?_)
        refine lv_iload X.1 X.2.1 dL_holds_270 (lv_at hl 7 rfl) ?_
        refine lv_sipush (v := (-400)) X.1 X.2.1 dL_holds_272 (by decide) ?_
        refine lv_icmp_lt (tgt := 485) X.1 X.2.1 dL_holds_275 (by decide) (fun c_275 => absurd c_275 (fb)) (fun c_275 => ?_)
        refine lv_iload X.1 X.2.1 dL_holds_278 (lv_at hl 7 rfl) ?_
        refine lv_sipush (v := 400) X.1 X.2.1 dL_holds_280 (by decide) ?_
        refine lv_icmp_gt (tgt := 485) X.1 X.2.1 dL_holds_283 (by decide) (fun c_283 => absurd c_283 (fc)) (fun c_283 => ?_)
        refine lv_iload X.1 X.2.1 dL_holds_286 (lv_at hl 4 rfl) ?_
        refine lv_if_lt (tgt := 485) X.1 X.2.1 dL_holds_288 (by decide) (fun c_288 => absurd c_288 (fd)) (fun c_288 => ?_)
        refine lv_iload X.1 X.2.1 dL_holds_291 (lv_at hl 4 rfl) ?_
        refine lv_bipush (v := 100) X.1 X.2.1 dL_holds_293 (by decide) ?_
        refine lv_icmp_gt (tgt := 485) X.1 X.2.1 dL_holds_295 (by decide) (fun c_295 => absurd c_295 (fe)) (fun c_295 => ?_)
        refine lv_iload X.1 X.2.1 dL_holds_298 (lv_at hl 3 rfl) ?_
        refine lv_if_lt (tgt := 485) X.1 X.2.1 dL_holds_300 (by decide) (fun c_300 => absurd c_300 (ff)) (fun c_300 => ?_)
        refine lv_iload X.1 X.2.1 dL_holds_303 (lv_at hl 8 rfl) ?_
        refine lv_if_ne (tgt := 312) X.1 X.2.1 dL_holds_305 (by decide) (fun c_305 => ?_) (fun c_305 => absurd c_305 (by decide))
        refine lv_iconst (v := 0) X.1 X.2.1 dL_holds_312 (by decide) ?_
        refine lv_iload X.1 X.2.1 dL_holds_313 (lv_at hl 3 rfl) ?_
        refine lv_if_le (tgt := 322) X.1 X.2.1 dL_holds_315 (by decide) (fun c_315 => ?_) (fun c_315 => absurd ((by rw [g1]; exact Int32.le_refl 0)) c_315)
        refine lv_iconst (v := 0) X.1 X.2.1 dL_holds_322 (by decide) ?_
        refine lv_icmp_ne (tgt := 485) X.1 X.2.1 dL_holds_323 (by decide) (fun c_323 => absurd (by decide) c_323) (fun c_323 => ?_)
        refine lv_iload X.1 X.2.1 dL_holds_326 (lv_at hl 8 rfl) ?_
        refine lv_iconst (v := 1) X.1 X.2.1 dL_holds_328 (by decide) ?_
        refine lv_icmp_ne (tgt := 336) X.1 X.2.1 dL_holds_329 (by decide) (fun c_329 => absurd (by decide) c_329) (fun c_329 => ?_)
        refine lv_iconst (v := 1) X.1 X.2.1 dL_holds_332 (by decide) ?_
        refine lv_goto (tgt := 337) X.1 X.2.1 dL_holds_333 (by decide) ?_
        refine lv_iload X.1 X.2.1 dL_holds_337 (lv_at hl 3 rfl) ?_
        refine lv_if_ne (tgt := 353) X.1 X.2.1 dL_holds_339 (by decide) (fun c_339 => absurd (g1) c_339) (fun c_339 => ?_)
        refine lv_iload X.1 X.2.1 dL_holds_342 (lv_at hl 7 rfl) ?_
        refine lv_iload X.1 X.2.1 dL_holds_344 (lv_at hl 5 rfl) ?_
        refine lv_icmp_lt (tgt := 353) X.1 X.2.1 dL_holds_346 (by decide) (fun c_346 => absurd c_346 (g3)) (fun c_346 => ?_)
        refine lv_iconst (v := 1) X.1 X.2.1 dL_holds_349 (by decide) ?_
        refine lv_goto (tgt := 354) X.1 X.2.1 dL_holds_350 (by decide) ?_
        refine lv_icmp_ne (tgt := 485) X.1 X.2.1 dL_holds_354 (by decide) (fun c_354 => absurd (by decide) c_354) (fun c_354 => ?_)
        refine lv_iload X.1 X.2.1 dL_holds_357 (lv_at hl 8 rfl) ?_
        refine lv_iconst (v := 2) X.1 X.2.1 dL_holds_359 (by decide) ?_
        refine lv_icmp_ne (tgt := 367) X.1 X.2.1 dL_holds_360 (by decide) (fun c_360 => ?_) (fun c_360 => absurd c_360 (by decide))
        refine lv_iconst (v := 0) X.1 X.2.1 dL_holds_367 (by decide) ?_
        refine lv_iload X.1 X.2.1 dL_holds_368 (lv_at hl 3 rfl) ?_
        refine lv_if_ne (tgt := 391) X.1 X.2.1 dL_holds_370 (by decide) (fun c_370 => absurd (g1) c_370) (fun c_370 => ?_)
        refine lv_iload X.1 X.2.1 dL_holds_373 (lv_at hl 7 rfl) ?_
        refine lv_iload X.1 X.2.1 dL_holds_375 (lv_at hl 5 rfl) ?_
        refine lv_icmp_ge (tgt := 391) X.1 X.2.1 dL_holds_377 (by decide) (fun c_377 => ?_) (fun c_377 => absurd (Int32.not_lt.mp g3) c_377)
        refine lv_iconst (v := 0) X.1 X.2.1 dL_holds_391 (by decide) ?_
        refine lv_icmp_ne (tgt := 485) X.1 X.2.1 dL_holds_392 (by decide) (fun c_392 => absurd (by decide) c_392) (fun c_392 => ?_)
        refine lv_iload X.1 X.2.1 dL_holds_395 (lv_at hl 8 rfl) ?_
        refine lv_iconst (v := 3) X.1 X.2.1 dL_holds_397 (by decide) ?_
        refine lv_icmp_eq (tgt := 407) X.1 X.2.1 dL_holds_398 (by decide) (fun c_398 => absurd c_398 (by decide)) (fun c_398 => ?_)
        refine lv_iload X.1 X.2.1 dL_holds_401 (lv_at hl 8 rfl) ?_
        refine lv_iconst (v := 4) X.1 X.2.1 dL_holds_403 (by decide) ?_
        refine lv_icmp_ne (tgt := 421) X.1 X.2.1 dL_holds_404 (by decide) (fun c_404 => ?_) (fun c_404 => absurd c_404 (by decide))
        refine lv_iload X.1 X.2.1 dL_holds_421 (lv_at hl 8 rfl) ?_
        refine lv_iconst (v := 5) X.1 X.2.1 dL_holds_423 (by decide) ?_
        refine lv_icmp_eq (tgt := 434) X.1 X.2.1 dL_holds_424 (by decide) (fun c_424 => absurd c_424 (by decide)) (fun c_424 => ?_)
        refine lv_iload X.1 X.2.1 dL_holds_427 (lv_at hl 8 rfl) ?_
        refine lv_bipush (v := 6) X.1 X.2.1 dL_holds_429 (by decide) ?_
        refine lv_icmp_ne (tgt := 454) X.1 X.2.1 dL_holds_431 (by decide) (fun c_431 => ?_) (fun c_431 => absurd c_431 (by decide))
        refine lv_iload X.1 X.2.1 dL_holds_454 (lv_at hl 8 rfl) ?_
        refine lv_bipush (v := 7) X.1 X.2.1 dL_holds_456 (by decide) ?_
        refine lv_icmp_ne (tgt := 481) X.1 X.2.1 dL_holds_458 (by decide) (fun c_458 => ?_) (fun c_458 => absurd c_458 (by decide))
        refine lv_iconst (v := 1) X.1 X.2.1 dL_holds_481 (by decide) ?_
        refine lv_goto (tgt := 486) X.1 X.2.1 dL_holds_482 (by decide) ?_
        refine lv_istore (lv' := [(8, .int 1), (7, .int (FTs σ.1 (i + 1))), (6, .int (TKs σ.1 (i + 1))), (16, .int (σ.1 (16 + 8 * i))), (15, .int (σ.1 (16 + 8 * i + 6))), (14, .int (σ.1 (16 + 8 * i + 5))), (13, .int (σ.1 (16 + 8 * i + 2))), (12, .int (σ.1 (16 + 8 * i + 1))), (11, .int (σ.1 (16 + 8 * i + 3))), (10, .int 1), (0, .ref h), (1, .int (nI (mF σ.1))), (2, .int (sX8_minutesLeft σ.1)), (3, .int (σ.1 10)), (4, .int (σ.1 12)), (5, .int (σ.1 2)), (9, .int (nI i))]) X.1 X.2.1 dL_holds_486 hl (by decide) rfl (fun ls hl => ?_)
        refine lv_iinc (v := (nI (i + 1))) (lv' := [(9, .int (nI (i + 1))), (8, .int 1), (7, .int (FTs σ.1 (i + 1))), (6, .int (TKs σ.1 (i + 1))), (16, .int (σ.1 (16 + 8 * i))), (15, .int (σ.1 (16 + 8 * i + 6))), (14, .int (σ.1 (16 + 8 * i + 5))), (13, .int (σ.1 (16 + 8 * i + 2))), (12, .int (σ.1 (16 + 8 * i + 1))), (11, .int (σ.1 (16 + 8 * i + 3))), (10, .int 1), (0, .ref h), (1, .int (nI (mF σ.1))), (2, .int (sX8_minutesLeft σ.1)), (3, .int (σ.1 10)), (4, .int (σ.1 12)), (5, .int (σ.1 2))]) X.1 X.2.1 dL_holds_488 hl (k := 16) rfl (nI_add i 1) (by decide) rfl (fun ls hl => ?_)
        refine lv_goto (tgt := 101) X.1 X.2.1 dL_holds_491 (by decide) ?_
        refine W.widen (k := 20 + 20 * (i + 1)) (n := 120 + 120 * (i + 1)) (by omega) (by omega) ?_
        exact ih (i + 1) _ o20 a20  _ _ ls hP hD hS (lv_sub hl [11, 12, 13, 14, 15, 16, 3, 2, 1, 0] rfl) (by omega)
      · skip
        refine kG1 (rest := []) (As := [.ref h, .int 4, .int (nI i), .int 0, .int 0]) X hP hD hS hl.1 o4.len (q_does l hst G kk (by omega) o4 (nI i) 0 0 ) sl_L_138 ⟨Nat.le_of_ble_eq_true rfl, Nat.le_of_ble_eq_true rfl, rfl, rfl⟩ ⟨by show _ ≤ 200; omega, by show _ ≤ 1200; omega⟩ rfl (Nat.le_of_ble_eq_true rfl) dL_holds_118 (fun w21 r21 H locs hΦ a21 hP hD hS => ?_)
        obtain ⟨o21, rfl⟩ := hΦ
        replace a21 := a21.trans a4
        refine top_eq (y := 2) ((qd_at ok hi).trans hd1) ?_
        refine lv_istore (lv' := [(10, .int 2), (0, .ref h), (1, .int (nI (mF σ.1))), (2, .int (sX8_minutesLeft σ.1)), (3, .int (σ.1 10)), (4, .int (σ.1 12)), (5, .int (σ.1 2)), (6, .int (TKs σ.1 i)), (7, .int (FTs σ.1 i)), (8, .int 1), (9, .int (nI i))]) X.1 X.2.1 dL_holds_121 hl (by decide) rfl (fun ls hl => ?_)
        refine lv_aload_n X.1 X.2.1 dL_holds_123 rfl (lv_at hl 1 rfl) ?_
        refine lv_iconst (v := 3) X.1 X.2.1 dL_holds_124 (by decide) ?_
        refine lv_iload X.1 X.2.1 dL_holds_125 (lv_at hl 10 rfl) ?_
        refine lv_iconst (v := 3) X.1 X.2.1 dL_holds_127 (by decide) ?_
        refine lv_iconst (v := 0) X.1 X.2.1 dL_holds_128 (by decide) ?_
        refine kG1 (rest := []) (As := [.ref h, .int 3, .int (nI i), .int 3, .int 0]) X hP hD hS hl.1 o21.len (q_room l hst G kk (by omega) o21 (nI i) 3 0 ) sl_L_138 ⟨Nat.le_of_ble_eq_true rfl, Nat.le_of_ble_eq_true rfl, rfl, rfl⟩ ⟨by show _ ≤ 200; omega, by show _ ≤ 1200; omega⟩ rfl (Nat.le_of_ble_eq_true rfl) dL_holds_129 (fun w22 r22 H locs hΦ a22 hP hD hS => ?_)
        obtain ⟨o22, rfl⟩ := hΦ
        replace a22 := a22.trans a21
        refine top_eq (y := (σ.1 (16 + 8 * i + 3))) (qr_at ok (w := 3) hi (by decide)) ?_
        refine lv_istore (lv' := [(11, .int (σ.1 (16 + 8 * i + 3))), (10, .int 2), (0, .ref h), (1, .int (nI (mF σ.1))), (2, .int (sX8_minutesLeft σ.1)), (3, .int (σ.1 10)), (4, .int (σ.1 12)), (5, .int (σ.1 2)), (6, .int (TKs σ.1 i)), (7, .int (FTs σ.1 i)), (8, .int 1), (9, .int (nI i))]) X.1 X.2.1 dL_holds_132 hl (by decide) rfl (fun ls hl => ?_)
        refine lv_aload_n X.1 X.2.1 dL_holds_134 rfl (lv_at hl 2 rfl) ?_
        refine lv_iconst (v := 3) X.1 X.2.1 dL_holds_135 (by decide) ?_
        refine lv_iload X.1 X.2.1 dL_holds_136 (lv_at hl 11 rfl) ?_
        refine lv_iconst (v := 1) X.1 X.2.1 dL_holds_138 (by decide) ?_
        refine lv_iconst (v := 0) X.1 X.2.1 dL_holds_139 (by decide) ?_
        refine kG1 (rest := []) (As := [.ref h, .int 3, .int (nI i), .int 1, .int 0]) X hP hD hS hl.1 o22.len (q_room l hst G kk (by omega) o22 (nI i) 1 0 ) sl_L_138 ⟨Nat.le_of_ble_eq_true rfl, Nat.le_of_ble_eq_true rfl, rfl, rfl⟩ ⟨by show _ ≤ 200; omega, by show _ ≤ 1200; omega⟩ rfl (Nat.le_of_ble_eq_true rfl) dL_holds_140 (fun w23 r23 H locs hΦ a23 hP hD hS => ?_)
        obtain ⟨o23, rfl⟩ := hΦ
        replace a23 := a23.trans a22
        refine top_eq (y := (σ.1 (16 + 8 * i + 1))) (qr_at ok (w := 1) hi (by decide)) ?_
        refine lv_istore (lv' := [(12, .int (σ.1 (16 + 8 * i + 1))), (11, .int (σ.1 (16 + 8 * i + 3))), (10, .int 2), (0, .ref h), (1, .int (nI (mF σ.1))), (2, .int (sX8_minutesLeft σ.1)), (3, .int (σ.1 10)), (4, .int (σ.1 12)), (5, .int (σ.1 2)), (6, .int (TKs σ.1 i)), (7, .int (FTs σ.1 i)), (8, .int 1), (9, .int (nI i))]) X.1 X.2.1 dL_holds_143 hl (by decide) rfl (fun ls hl => ?_)
        refine lv_aload_n X.1 X.2.1 dL_holds_145 rfl (lv_at hl 3 rfl) ?_
        refine lv_iconst (v := 3) X.1 X.2.1 dL_holds_146 (by decide) ?_
        refine lv_iload X.1 X.2.1 dL_holds_147 (lv_at hl 12 rfl) ?_
        refine lv_iconst (v := 2) X.1 X.2.1 dL_holds_149 (by decide) ?_
        refine lv_iconst (v := 0) X.1 X.2.1 dL_holds_150 (by decide) ?_
        refine kG1 (rest := []) (As := [.ref h, .int 3, .int (nI i), .int 2, .int 0]) X hP hD hS hl.1 o23.len (q_room l hst G kk (by omega) o23 (nI i) 2 0 ) sl_L_138 ⟨Nat.le_of_ble_eq_true rfl, Nat.le_of_ble_eq_true rfl, rfl, rfl⟩ ⟨by show _ ≤ 200; omega, by show _ ≤ 1200; omega⟩ rfl (Nat.le_of_ble_eq_true rfl) dL_holds_151 (fun w24 r24 H locs hΦ a24 hP hD hS => ?_)
        obtain ⟨o24, rfl⟩ := hΦ
        replace a24 := a24.trans a23
        refine top_eq (y := (σ.1 (16 + 8 * i + 2))) (qr_at ok (w := 2) hi (by decide)) ?_
        refine lv_istore (lv' := [(13, .int (σ.1 (16 + 8 * i + 2))), (12, .int (σ.1 (16 + 8 * i + 1))), (11, .int (σ.1 (16 + 8 * i + 3))), (10, .int 2), (0, .ref h), (1, .int (nI (mF σ.1))), (2, .int (sX8_minutesLeft σ.1)), (3, .int (σ.1 10)), (4, .int (σ.1 12)), (5, .int (σ.1 2)), (6, .int (TKs σ.1 i)), (7, .int (FTs σ.1 i)), (8, .int 1), (9, .int (nI i))]) X.1 X.2.1 dL_holds_154 hl (by decide) rfl (fun ls hl => ?_)
        refine lv_aload_n X.1 X.2.1 dL_holds_156 rfl (lv_at hl 4 rfl) ?_
        refine lv_iconst (v := 3) X.1 X.2.1 dL_holds_157 (by decide) ?_
        refine lv_iload X.1 X.2.1 dL_holds_158 (lv_at hl 13 rfl) ?_
        refine lv_iconst (v := 5) X.1 X.2.1 dL_holds_160 (by decide) ?_
        refine lv_iconst (v := 0) X.1 X.2.1 dL_holds_161 (by decide) ?_
        refine kG1 (rest := []) (As := [.ref h, .int 3, .int (nI i), .int 5, .int 0]) X hP hD hS hl.1 o24.len (q_room l hst G kk (by omega) o24 (nI i) 5 0 ) sl_L_138 ⟨Nat.le_of_ble_eq_true rfl, Nat.le_of_ble_eq_true rfl, rfl, rfl⟩ ⟨by show _ ≤ 200; omega, by show _ ≤ 1200; omega⟩ rfl (Nat.le_of_ble_eq_true rfl) dL_holds_162 (fun w25 r25 H locs hΦ a25 hP hD hS => ?_)
        obtain ⟨o25, rfl⟩ := hΦ
        replace a25 := a25.trans a24
        refine top_eq (y := (σ.1 (16 + 8 * i + 5))) (qr_at ok (w := 5) hi (by decide)) ?_
        refine lv_istore (lv' := [(14, .int (σ.1 (16 + 8 * i + 5))), (13, .int (σ.1 (16 + 8 * i + 2))), (12, .int (σ.1 (16 + 8 * i + 1))), (11, .int (σ.1 (16 + 8 * i + 3))), (10, .int 2), (0, .ref h), (1, .int (nI (mF σ.1))), (2, .int (sX8_minutesLeft σ.1)), (3, .int (σ.1 10)), (4, .int (σ.1 12)), (5, .int (σ.1 2)), (6, .int (TKs σ.1 i)), (7, .int (FTs σ.1 i)), (8, .int 1), (9, .int (nI i))]) X.1 X.2.1 dL_holds_165 hl (by decide) rfl (fun ls hl => ?_)
        refine lv_aload_n X.1 X.2.1 dL_holds_167 rfl (lv_at hl 5 rfl) ?_
        refine lv_iconst (v := 3) X.1 X.2.1 dL_holds_168 (by decide) ?_
        refine lv_iload X.1 X.2.1 dL_holds_169 (lv_at hl 14 rfl) ?_
        refine lv_bipush (v := 6) X.1 X.2.1 dL_holds_171 (by decide) ?_
        refine lv_iconst (v := 0) X.1 X.2.1 dL_holds_173 (by decide) ?_
        refine kG1 (rest := []) (As := [.ref h, .int 3, .int (nI i), .int 6, .int 0]) X hP hD hS hl.1 o25.len (q_room l hst G kk (by omega) o25 (nI i) 6 0 ) sl_L_138 ⟨Nat.le_of_ble_eq_true rfl, Nat.le_of_ble_eq_true rfl, rfl, rfl⟩ ⟨by show _ ≤ 200; omega, by show _ ≤ 1200; omega⟩ rfl (Nat.le_of_ble_eq_true rfl) dL_holds_174 (fun w26 r26 H locs hΦ a26 hP hD hS => ?_)
        obtain ⟨o26, rfl⟩ := hΦ
        replace a26 := a26.trans a25
        refine top_eq (y := (σ.1 (16 + 8 * i + 6))) (qr_at ok (w := 6) hi (by decide)) ?_
        refine lv_istore (lv' := [(15, .int (σ.1 (16 + 8 * i + 6))), (14, .int (σ.1 (16 + 8 * i + 5))), (13, .int (σ.1 (16 + 8 * i + 2))), (12, .int (σ.1 (16 + 8 * i + 1))), (11, .int (σ.1 (16 + 8 * i + 3))), (10, .int 2), (0, .ref h), (1, .int (nI (mF σ.1))), (2, .int (sX8_minutesLeft σ.1)), (3, .int (σ.1 10)), (4, .int (σ.1 12)), (5, .int (σ.1 2)), (6, .int (TKs σ.1 i)), (7, .int (FTs σ.1 i)), (8, .int 1), (9, .int (nI i))]) X.1 X.2.1 dL_holds_177 hl (by decide) rfl (fun ls hl => ?_)
        refine lv_iload X.1 X.2.1 dL_holds_179 (lv_at hl 5 rfl) ?_
        refine lv_iconst (v := 1) X.1 X.2.1 dL_holds_181 (by decide) ?_
        refine lv_icmp_eq (tgt := 191) X.1 X.2.1 dL_holds_182 (by decide) (fun c_182 => absurd c_182 (by decide)) (fun c_182 => ?_)
        refine lv_iload X.1 X.2.1 dL_holds_185 (lv_at hl 5 rfl) ?_
        refine lv_iconst (v := 3) X.1 X.2.1 dL_holds_187 (by decide) ?_
        refine lv_icmp_ne (tgt := 203) X.1 X.2.1 dL_holds_188 (by decide) (fun c_188 => ?_) (fun c_188 => absurd c_188 (by decide))
        refine lv_iload X.1 X.2.1 dL_holds_203 (lv_at hl 5 rfl) ?_
        refine lv_if_eq (tgt := 220) X.1 X.2.1 dL_holds_205 (by decide) (fun c_205 => absurd c_205 (by decide)) (fun c_205 => ?_)
        refine lv_iload X.1 X.2.1 dL_holds_208 (lv_at hl 5 rfl) ?_
        refine lv_iconst (v := 2) X.1 X.2.1 dL_holds_210 (by decide) ?_
        refine lv_icmp_eq (tgt := 220) X.1 X.2.1 dL_holds_211 (by decide) (fun c_211 => ?_) (fun c_211 => absurd (by decide) c_211)
        refine lv_aload_n X.1 X.2.1 dL_holds_220 rfl (lv_at hl 6 rfl) ?_
        refine lv_iconst (v := 5) X.1 X.2.1 dL_holds_221 (by decide) ?_
        refine lv_iconst (v := 3) X.1 X.2.1 dL_holds_222 (by decide) ?_
        refine lv_iconst (v := 0) X.1 X.2.1 dL_holds_223 (by decide) ?_
        refine lv_iconst (v := 0) X.1 X.2.1 dL_holds_224 (by decide) ?_
        refine kG1 (rest := []) (As := [.ref h, .int 5, .int 3, .int 0, .int 0]) X hP hD hS hl.1 o26.len (q_setting l hst G kk (by omega) o26 3 0 0 ) sl_L_138 ⟨Nat.le_of_ble_eq_true rfl, Nat.le_of_ble_eq_true rfl, rfl, rfl⟩ ⟨by show _ ≤ 200; omega, by show _ ≤ 1200; omega⟩ rfl (Nat.le_of_ble_eq_true rfl) dL_holds_225 (fun w27 r27 H locs hΦ a27 hP hD hS => ?_)
        obtain ⟨o27, rfl⟩ := hΦ
        replace a27 := a27.trans a26
        refine top_eq (y := (σ.1 13)) (qs_3 σ.1) ?_
        refine lv_goto (tgt := 232) X.1 X.2.1 dL_holds_228 (by decide) ?_
        refine lv_istore (lv' := [(16, .int (σ.1 13)), (15, .int (σ.1 (16 + 8 * i + 6))), (14, .int (σ.1 (16 + 8 * i + 5))), (13, .int (σ.1 (16 + 8 * i + 2))), (12, .int (σ.1 (16 + 8 * i + 1))), (11, .int (σ.1 (16 + 8 * i + 3))), (10, .int 2), (0, .ref h), (1, .int (nI (mF σ.1))), (2, .int (sX8_minutesLeft σ.1)), (3, .int (σ.1 10)), (4, .int (σ.1 12)), (5, .int (σ.1 2)), (6, .int (TKs σ.1 i)), (7, .int (FTs σ.1 i)), (8, .int 1), (9, .int (nI i))]) X.1 X.2.1 dL_holds_232 hl (by decide) rfl (fun ls hl => ?_)
        refine lv_iload X.1 X.2.1 dL_holds_234 (lv_at hl 13 rfl) ?_
        refine lv_iload X.1 X.2.1 dL_holds_236 (lv_at hl 0 rfl) ?_
        refine lv_iadd X.1 X.2.1 dL_holds_238 ?_
        refine top_eq (y := (TKs σ.1 (i + 1))) (by show _ = TKs σ.1 i + LDj σ.1 (JB σ.1 i) i; rw [hd1]; rfl) ?_
        refine lv_istore (lv' := [(6, .int (TKs σ.1 (i + 1))), (16, .int (σ.1 13)), (15, .int (σ.1 (16 + 8 * i + 6))), (14, .int (σ.1 (16 + 8 * i + 5))), (13, .int (σ.1 (16 + 8 * i + 2))), (12, .int (σ.1 (16 + 8 * i + 1))), (11, .int (σ.1 (16 + 8 * i + 3))), (10, .int 2), (0, .ref h), (1, .int (nI (mF σ.1))), (2, .int (sX8_minutesLeft σ.1)), (3, .int (σ.1 10)), (4, .int (σ.1 12)), (5, .int (σ.1 2)), (7, .int (FTs σ.1 i)), (8, .int 1), (9, .int (nI i))]) X.1 X.2.1 dL_holds_239 hl (by decide) rfl (fun ls hl => ?_)
        refine lv_iload X.1 X.2.1 dL_holds_241 (lv_at hl 14 rfl) ?_
        refine lv_iload X.1 X.2.1 dL_holds_243 (lv_at hl 7 rfl) ?_
        refine lv_iconst (v := 3) X.1 X.2.1 dL_holds_245 (by decide) ?_
        refine lv_icmp_eq (tgt := 255) X.1 X.2.1 dL_holds_246 (by decide) (fun c_246 => absurd c_246 (by decide)) (fun c_246 => ?_)
        refine lv_iload X.1 X.2.1 dL_holds_249 (lv_at hl 7 rfl) ?_
        refine lv_iconst (v := 5) X.1 X.2.1 dL_holds_251 (by decide) ?_
        refine lv_icmp_ne (tgt := 259) X.1 X.2.1 dL_holds_252 (by decide) (fun c_252 => ?_) (fun c_252 => absurd c_252 (by decide))
        refine lv_iconst (v := 0) X.1 X.2.1 dL_holds_259 (by decide) ?_
        refine lv_iadd X.1 X.2.1 dL_holds_260 ?_
        refine top_eq (y := (FTs σ.1 (i + 1))) (by show _ = FTs σ.1 i + (if JB σ.1 i = 3 ∨ JB σ.1 i = 5 then 1 else 0); rw [hd1]; rfl) ?_
        refine lv_istore (lv' := [(7, .int (FTs σ.1 (i + 1))), (6, .int (TKs σ.1 (i + 1))), (16, .int (σ.1 13)), (15, .int (σ.1 (16 + 8 * i + 6))), (14, .int (σ.1 (16 + 8 * i + 5))), (13, .int (σ.1 (16 + 8 * i + 2))), (12, .int (σ.1 (16 + 8 * i + 1))), (11, .int (σ.1 (16 + 8 * i + 3))), (10, .int 2), (0, .ref h), (1, .int (nI (mF σ.1))), (2, .int (sX8_minutesLeft σ.1)), (3, .int (σ.1 10)), (4, .int (σ.1 12)), (5, .int (σ.1 2)), (8, .int 1), (9, .int (nI i))]) X.1 X.2.1 dL_holds_261 hl (by decide) rfl (fun ls hl => ?_)
        refine lv_iload X.1 X.2.1 dL_holds_263 (lv_at hl 6 rfl) ?_
        refine lv_iload X.1 X.2.1 dL_holds_265 (lv_at hl 5 rfl) ?_
        refine lv_icmp_ge (tgt := 485) X.1 X.2.1 dL_holds_267 (by decide) (fun c_267 => absurd c_267 (fa)) (fun c_267 => ?_)
        refine lv_iload X.1 X.2.1 dL_holds_270 (lv_at hl 7 rfl) ?_
        refine lv_sipush (v := (-400)) X.1 X.2.1 dL_holds_272 (by decide) ?_
        refine lv_icmp_lt (tgt := 485) X.1 X.2.1 dL_holds_275 (by decide) (fun c_275 => absurd c_275 (fb)) (fun c_275 => ?_)
        refine lv_iload X.1 X.2.1 dL_holds_278 (lv_at hl 7 rfl) ?_
        refine lv_sipush (v := 400) X.1 X.2.1 dL_holds_280 (by decide) ?_
        refine lv_icmp_gt (tgt := 485) X.1 X.2.1 dL_holds_283 (by decide) (fun c_283 => absurd c_283 (fc)) (fun c_283 => ?_)
        refine lv_iload X.1 X.2.1 dL_holds_286 (lv_at hl 4 rfl) ?_
        refine lv_if_lt (tgt := 485) X.1 X.2.1 dL_holds_288 (by decide) (fun c_288 => absurd c_288 (fd)) (fun c_288 => ?_)
        refine lv_iload X.1 X.2.1 dL_holds_291 (lv_at hl 4 rfl) ?_
        refine lv_bipush (v := 100) X.1 X.2.1 dL_holds_293 (by decide) ?_
        refine lv_icmp_gt (tgt := 485) X.1 X.2.1 dL_holds_295 (by decide) (fun c_295 => absurd c_295 (fe)) (fun c_295 => ?_)
        refine lv_iload X.1 X.2.1 dL_holds_298 (lv_at hl 3 rfl) ?_
        refine lv_if_lt (tgt := 485) X.1 X.2.1 dL_holds_300 (by decide) (fun c_300 => absurd c_300 (ff)) (fun c_300 => ?_)
        refine lv_iload X.1 X.2.1 dL_holds_303 (lv_at hl 8 rfl) ?_
        refine lv_if_ne (tgt := 312) X.1 X.2.1 dL_holds_305 (by decide) (fun c_305 => ?_) (fun c_305 => absurd c_305 (by decide))
        refine lv_iconst (v := 0) X.1 X.2.1 dL_holds_312 (by decide) ?_
        refine lv_iload X.1 X.2.1 dL_holds_313 (lv_at hl 3 rfl) ?_
        refine lv_if_le (tgt := 322) X.1 X.2.1 dL_holds_315 (by decide) (fun c_315 => ?_) (fun c_315 => absurd ((by rw [g1]; exact Int32.le_refl 0)) c_315)
        refine lv_iconst (v := 0) X.1 X.2.1 dL_holds_322 (by decide) ?_
        refine lv_icmp_ne (tgt := 485) X.1 X.2.1 dL_holds_323 (by decide) (fun c_323 => absurd (by decide) c_323) (fun c_323 => ?_)
        refine lv_iload X.1 X.2.1 dL_holds_326 (lv_at hl 8 rfl) ?_
        refine lv_iconst (v := 1) X.1 X.2.1 dL_holds_328 (by decide) ?_
        refine lv_icmp_ne (tgt := 336) X.1 X.2.1 dL_holds_329 (by decide) (fun c_329 => ?_) (fun c_329 => absurd c_329 (by decide))
        refine lv_iconst (v := 0) X.1 X.2.1 dL_holds_336 (by decide) ?_
        refine lv_iload X.1 X.2.1 dL_holds_337 (lv_at hl 3 rfl) ?_
        refine lv_if_ne (tgt := 353) X.1 X.2.1 dL_holds_339 (by decide) (fun c_339 => absurd (g1) c_339) (fun c_339 => ?_)
        refine lv_iload X.1 X.2.1 dL_holds_342 (lv_at hl 7 rfl) ?_
        refine lv_iload X.1 X.2.1 dL_holds_344 (lv_at hl 5 rfl) ?_
        refine lv_icmp_lt (tgt := 353) X.1 X.2.1 dL_holds_346 (by decide) (fun c_346 => ?_) (fun c_346 => absurd (g3) c_346)
        refine lv_iconst (v := 0) X.1 X.2.1 dL_holds_353 (by decide) ?_
        refine lv_icmp_ne (tgt := 485) X.1 X.2.1 dL_holds_354 (by decide) (fun c_354 => absurd (by decide) c_354) (fun c_354 => ?_)
        refine lv_iload X.1 X.2.1 dL_holds_357 (lv_at hl 8 rfl) ?_
        refine lv_iconst (v := 2) X.1 X.2.1 dL_holds_359 (by decide) ?_
        refine lv_icmp_ne (tgt := 367) X.1 X.2.1 dL_holds_360 (by decide) (fun c_360 => absurd (by decide) c_360) (fun c_360 => ?_)
        refine lv_iconst (v := 1) X.1 X.2.1 dL_holds_363 (by decide) ?_
        refine lv_goto (tgt := 368) X.1 X.2.1 dL_holds_364 (by decide) ?_
        refine lv_iload X.1 X.2.1 dL_holds_368 (lv_at hl 3 rfl) ?_
        refine lv_if_ne (tgt := 391) X.1 X.2.1 dL_holds_370 (by decide) (fun c_370 => absurd (g1) c_370) (fun c_370 => ?_)
        refine lv_iload X.1 X.2.1 dL_holds_373 (lv_at hl 7 rfl) ?_
        refine lv_iload X.1 X.2.1 dL_holds_375 (lv_at hl 5 rfl) ?_
        refine lv_icmp_ge (tgt := 391) X.1 X.2.1 dL_holds_377 (by decide) (fun c_377 => absurd c_377 (Int32.not_le.mpr g3)) (fun c_377 => ?_)
        refine lv_iload X.1 X.2.1 dL_holds_380 (lv_at hl 4 rfl) ?_
        refine lv_bipush (v := 100) X.1 X.2.1 dL_holds_382 (by decide) ?_
        refine lv_icmp_ne (tgt := 391) X.1 X.2.1 dL_holds_384 (by decide) (fun c_384 => absurd (g4) c_384) (fun c_384 => ?_)
        refine lv_iconst (v := 1) X.1 X.2.1 dL_holds_387 (by decide) ?_
        refine lv_goto (tgt := 392) X.1 X.2.1 dL_holds_388 (by decide) ?_
        refine lv_icmp_ne (tgt := 485) X.1 X.2.1 dL_holds_392 (by decide) (fun c_392 => absurd (by decide) c_392) (fun c_392 => ?_)
        refine lv_iload X.1 X.2.1 dL_holds_395 (lv_at hl 8 rfl) ?_
        refine lv_iconst (v := 3) X.1 X.2.1 dL_holds_397 (by decide) ?_
        refine lv_icmp_eq (tgt := 407) X.1 X.2.1 dL_holds_398 (by decide) (fun c_398 => absurd c_398 (by decide)) (fun c_398 => ?_)
        refine lv_iload X.1 X.2.1 dL_holds_401 (lv_at hl 8 rfl) ?_
        refine lv_iconst (v := 4) X.1 X.2.1 dL_holds_403 (by decide) ?_
        refine lv_icmp_ne (tgt := 421) X.1 X.2.1 dL_holds_404 (by decide) (fun c_404 => ?_) (fun c_404 => absurd c_404 (by decide))
        refine lv_iload X.1 X.2.1 dL_holds_421 (lv_at hl 8 rfl) ?_
        refine lv_iconst (v := 5) X.1 X.2.1 dL_holds_423 (by decide) ?_
        refine lv_icmp_eq (tgt := 434) X.1 X.2.1 dL_holds_424 (by decide) (fun c_424 => absurd c_424 (by decide)) (fun c_424 => ?_)
        refine lv_iload X.1 X.2.1 dL_holds_427 (lv_at hl 8 rfl) ?_
        refine lv_bipush (v := 6) X.1 X.2.1 dL_holds_429 (by decide) ?_
        refine lv_icmp_ne (tgt := 454) X.1 X.2.1 dL_holds_431 (by decide) (fun c_431 => ?_) (fun c_431 => absurd c_431 (by decide))
        refine lv_iload X.1 X.2.1 dL_holds_454 (lv_at hl 8 rfl) ?_
        refine lv_bipush (v := 7) X.1 X.2.1 dL_holds_456 (by decide) ?_
        refine lv_icmp_ne (tgt := 481) X.1 X.2.1 dL_holds_458 (by decide) (fun c_458 => ?_) (fun c_458 => absurd c_458 (by decide))
        refine lv_iconst (v := 1) X.1 X.2.1 dL_holds_481 (by decide) ?_
        refine lv_goto (tgt := 486) X.1 X.2.1 dL_holds_482 (by decide) ?_
        refine lv_istore (lv' := [(8, .int 1), (7, .int (FTs σ.1 (i + 1))), (6, .int (TKs σ.1 (i + 1))), (16, .int (σ.1 13)), (15, .int (σ.1 (16 + 8 * i + 6))), (14, .int (σ.1 (16 + 8 * i + 5))), (13, .int (σ.1 (16 + 8 * i + 2))), (12, .int (σ.1 (16 + 8 * i + 1))), (11, .int (σ.1 (16 + 8 * i + 3))), (10, .int 2), (0, .ref h), (1, .int (nI (mF σ.1))), (2, .int (sX8_minutesLeft σ.1)), (3, .int (σ.1 10)), (4, .int (σ.1 12)), (5, .int (σ.1 2)), (9, .int (nI i))]) X.1 X.2.1 dL_holds_486 hl (by decide) rfl (fun ls hl => ?_)
        refine lv_iinc (v := (nI (i + 1))) (lv' := [(9, .int (nI (i + 1))), (8, .int 1), (7, .int (FTs σ.1 (i + 1))), (6, .int (TKs σ.1 (i + 1))), (16, .int (σ.1 13)), (15, .int (σ.1 (16 + 8 * i + 6))), (14, .int (σ.1 (16 + 8 * i + 5))), (13, .int (σ.1 (16 + 8 * i + 2))), (12, .int (σ.1 (16 + 8 * i + 1))), (11, .int (σ.1 (16 + 8 * i + 3))), (10, .int 2), (0, .ref h), (1, .int (nI (mF σ.1))), (2, .int (sX8_minutesLeft σ.1)), (3, .int (σ.1 10)), (4, .int (σ.1 12)), (5, .int (σ.1 2))]) X.1 X.2.1 dL_holds_488 hl (k := 16) rfl (nI_add i 1) (by decide) rfl (fun ls hl => ?_)
        refine lv_goto (tgt := 101) X.1 X.2.1 dL_holds_491 (by decide) ?_
        refine W.widen (k := 20 + 20 * (i + 1)) (n := 120 + 120 * (i + 1)) (by omega) (by omega) ?_
        exact ih (i + 1) _ o27 a27  _ _ ls hP hD hS (lv_sub hl [11, 12, 13, 14, 15, 16, 3, 2, 1, 0] rfl) (by omega)
      · skip
        refine kG1 (rest := []) (As := [.ref h, .int 4, .int (nI i), .int 0, .int 0]) X hP hD hS hl.1 o4.len (q_does l hst G kk (by omega) o4 (nI i) 0 0 ) sl_L_138 ⟨Nat.le_of_ble_eq_true rfl, Nat.le_of_ble_eq_true rfl, rfl, rfl⟩ ⟨by show _ ≤ 200; omega, by show _ ≤ 1200; omega⟩ rfl (Nat.le_of_ble_eq_true rfl) dL_holds_118 (fun w28 r28 H locs hΦ a28 hP hD hS => ?_)
        obtain ⟨o28, rfl⟩ := hΦ
        replace a28 := a28.trans a4
        refine top_eq (y := 3) ((qd_at ok hi).trans hd1) ?_
        refine lv_istore (lv' := [(10, .int 3), (0, .ref h), (1, .int (nI (mF σ.1))), (2, .int (sX8_minutesLeft σ.1)), (3, .int (σ.1 10)), (4, .int (σ.1 12)), (5, .int (σ.1 2)), (6, .int (TKs σ.1 i)), (7, .int (FTs σ.1 i)), (8, .int 1), (9, .int (nI i))]) X.1 X.2.1 dL_holds_121 hl (by decide) rfl (fun ls hl => ?_)
        refine lv_aload_n X.1 X.2.1 dL_holds_123 rfl (lv_at hl 1 rfl) ?_
        refine lv_iconst (v := 3) X.1 X.2.1 dL_holds_124 (by decide) ?_
        refine lv_iload X.1 X.2.1 dL_holds_125 (lv_at hl 10 rfl) ?_
        refine lv_iconst (v := 3) X.1 X.2.1 dL_holds_127 (by decide) ?_
        refine lv_iconst (v := 0) X.1 X.2.1 dL_holds_128 (by decide) ?_
        refine kG1 (rest := []) (As := [.ref h, .int 3, .int (nI i), .int 3, .int 0]) X hP hD hS hl.1 o28.len (q_room l hst G kk (by omega) o28 (nI i) 3 0 ) sl_L_138 ⟨Nat.le_of_ble_eq_true rfl, Nat.le_of_ble_eq_true rfl, rfl, rfl⟩ ⟨by show _ ≤ 200; omega, by show _ ≤ 1200; omega⟩ rfl (Nat.le_of_ble_eq_true rfl) dL_holds_129 (fun w29 r29 H locs hΦ a29 hP hD hS => ?_)
        obtain ⟨o29, rfl⟩ := hΦ
        replace a29 := a29.trans a28
        refine top_eq (y := (σ.1 (16 + 8 * i + 3))) (qr_at ok (w := 3) hi (by decide)) ?_
        refine lv_istore (lv' := [(11, .int (σ.1 (16 + 8 * i + 3))), (10, .int 3), (0, .ref h), (1, .int (nI (mF σ.1))), (2, .int (sX8_minutesLeft σ.1)), (3, .int (σ.1 10)), (4, .int (σ.1 12)), (5, .int (σ.1 2)), (6, .int (TKs σ.1 i)), (7, .int (FTs σ.1 i)), (8, .int 1), (9, .int (nI i))]) X.1 X.2.1 dL_holds_132 hl (by decide) rfl (fun ls hl => ?_)
        refine lv_aload_n X.1 X.2.1 dL_holds_134 rfl (lv_at hl 2 rfl) ?_
        refine lv_iconst (v := 3) X.1 X.2.1 dL_holds_135 (by decide) ?_
        refine lv_iload X.1 X.2.1 dL_holds_136 (lv_at hl 11 rfl) ?_
        refine lv_iconst (v := 1) X.1 X.2.1 dL_holds_138 (by decide) ?_
        refine lv_iconst (v := 0) X.1 X.2.1 dL_holds_139 (by decide) ?_
        refine kG1 (rest := []) (As := [.ref h, .int 3, .int (nI i), .int 1, .int 0]) X hP hD hS hl.1 o29.len (q_room l hst G kk (by omega) o29 (nI i) 1 0 ) sl_L_138 ⟨Nat.le_of_ble_eq_true rfl, Nat.le_of_ble_eq_true rfl, rfl, rfl⟩ ⟨by show _ ≤ 200; omega, by show _ ≤ 1200; omega⟩ rfl (Nat.le_of_ble_eq_true rfl) dL_holds_140 (fun w30 r30 H locs hΦ a30 hP hD hS => ?_)
        obtain ⟨o30, rfl⟩ := hΦ
        replace a30 := a30.trans a29
        refine top_eq (y := (σ.1 (16 + 8 * i + 1))) (qr_at ok (w := 1) hi (by decide)) ?_
        refine lv_istore (lv' := [(12, .int (σ.1 (16 + 8 * i + 1))), (11, .int (σ.1 (16 + 8 * i + 3))), (10, .int 3), (0, .ref h), (1, .int (nI (mF σ.1))), (2, .int (sX8_minutesLeft σ.1)), (3, .int (σ.1 10)), (4, .int (σ.1 12)), (5, .int (σ.1 2)), (6, .int (TKs σ.1 i)), (7, .int (FTs σ.1 i)), (8, .int 1), (9, .int (nI i))]) X.1 X.2.1 dL_holds_143 hl (by decide) rfl (fun ls hl => ?_)
        refine lv_aload_n X.1 X.2.1 dL_holds_145 rfl (lv_at hl 3 rfl) ?_
        refine lv_iconst (v := 3) X.1 X.2.1 dL_holds_146 (by decide) ?_
        refine lv_iload X.1 X.2.1 dL_holds_147 (lv_at hl 12 rfl) ?_
        refine lv_iconst (v := 2) X.1 X.2.1 dL_holds_149 (by decide) ?_
        refine lv_iconst (v := 0) X.1 X.2.1 dL_holds_150 (by decide) ?_
        refine kG1 (rest := []) (As := [.ref h, .int 3, .int (nI i), .int 2, .int 0]) X hP hD hS hl.1 o30.len (q_room l hst G kk (by omega) o30 (nI i) 2 0 ) sl_L_138 ⟨Nat.le_of_ble_eq_true rfl, Nat.le_of_ble_eq_true rfl, rfl, rfl⟩ ⟨by show _ ≤ 200; omega, by show _ ≤ 1200; omega⟩ rfl (Nat.le_of_ble_eq_true rfl) dL_holds_151 (fun w31 r31 H locs hΦ a31 hP hD hS => ?_)
        obtain ⟨o31, rfl⟩ := hΦ
        replace a31 := a31.trans a30
        refine top_eq (y := (σ.1 (16 + 8 * i + 2))) (qr_at ok (w := 2) hi (by decide)) ?_
        refine lv_istore (lv' := [(13, .int (σ.1 (16 + 8 * i + 2))), (12, .int (σ.1 (16 + 8 * i + 1))), (11, .int (σ.1 (16 + 8 * i + 3))), (10, .int 3), (0, .ref h), (1, .int (nI (mF σ.1))), (2, .int (sX8_minutesLeft σ.1)), (3, .int (σ.1 10)), (4, .int (σ.1 12)), (5, .int (σ.1 2)), (6, .int (TKs σ.1 i)), (7, .int (FTs σ.1 i)), (8, .int 1), (9, .int (nI i))]) X.1 X.2.1 dL_holds_154 hl (by decide) rfl (fun ls hl => ?_)
        refine lv_aload_n X.1 X.2.1 dL_holds_156 rfl (lv_at hl 4 rfl) ?_
        refine lv_iconst (v := 3) X.1 X.2.1 dL_holds_157 (by decide) ?_
        refine lv_iload X.1 X.2.1 dL_holds_158 (lv_at hl 13 rfl) ?_
        refine lv_iconst (v := 5) X.1 X.2.1 dL_holds_160 (by decide) ?_
        refine lv_iconst (v := 0) X.1 X.2.1 dL_holds_161 (by decide) ?_
        refine kG1 (rest := []) (As := [.ref h, .int 3, .int (nI i), .int 5, .int 0]) X hP hD hS hl.1 o31.len (q_room l hst G kk (by omega) o31 (nI i) 5 0 ) sl_L_138 ⟨Nat.le_of_ble_eq_true rfl, Nat.le_of_ble_eq_true rfl, rfl, rfl⟩ ⟨by show _ ≤ 200; omega, by show _ ≤ 1200; omega⟩ rfl (Nat.le_of_ble_eq_true rfl) dL_holds_162 (fun w32 r32 H locs hΦ a32 hP hD hS => ?_)
        obtain ⟨o32, rfl⟩ := hΦ
        replace a32 := a32.trans a31
        refine top_eq (y := (σ.1 (16 + 8 * i + 5))) (qr_at ok (w := 5) hi (by decide)) ?_
        refine lv_istore (lv' := [(14, .int (σ.1 (16 + 8 * i + 5))), (13, .int (σ.1 (16 + 8 * i + 2))), (12, .int (σ.1 (16 + 8 * i + 1))), (11, .int (σ.1 (16 + 8 * i + 3))), (10, .int 3), (0, .ref h), (1, .int (nI (mF σ.1))), (2, .int (sX8_minutesLeft σ.1)), (3, .int (σ.1 10)), (4, .int (σ.1 12)), (5, .int (σ.1 2)), (6, .int (TKs σ.1 i)), (7, .int (FTs σ.1 i)), (8, .int 1), (9, .int (nI i))]) X.1 X.2.1 dL_holds_165 hl (by decide) rfl (fun ls hl => ?_)
        refine lv_aload_n X.1 X.2.1 dL_holds_167 rfl (lv_at hl 5 rfl) ?_
        refine lv_iconst (v := 3) X.1 X.2.1 dL_holds_168 (by decide) ?_
        refine lv_iload X.1 X.2.1 dL_holds_169 (lv_at hl 14 rfl) ?_
        refine lv_bipush (v := 6) X.1 X.2.1 dL_holds_171 (by decide) ?_
        refine lv_iconst (v := 0) X.1 X.2.1 dL_holds_173 (by decide) ?_
        refine kG1 (rest := []) (As := [.ref h, .int 3, .int (nI i), .int 6, .int 0]) X hP hD hS hl.1 o32.len (q_room l hst G kk (by omega) o32 (nI i) 6 0 ) sl_L_138 ⟨Nat.le_of_ble_eq_true rfl, Nat.le_of_ble_eq_true rfl, rfl, rfl⟩ ⟨by show _ ≤ 200; omega, by show _ ≤ 1200; omega⟩ rfl (Nat.le_of_ble_eq_true rfl) dL_holds_174 (fun w33 r33 H locs hΦ a33 hP hD hS => ?_)
        obtain ⟨o33, rfl⟩ := hΦ
        replace a33 := a33.trans a32
        refine top_eq (y := (σ.1 (16 + 8 * i + 6))) (qr_at ok (w := 6) hi (by decide)) ?_
        refine lv_istore (lv' := [(15, .int (σ.1 (16 + 8 * i + 6))), (14, .int (σ.1 (16 + 8 * i + 5))), (13, .int (σ.1 (16 + 8 * i + 2))), (12, .int (σ.1 (16 + 8 * i + 1))), (11, .int (σ.1 (16 + 8 * i + 3))), (10, .int 3), (0, .ref h), (1, .int (nI (mF σ.1))), (2, .int (sX8_minutesLeft σ.1)), (3, .int (σ.1 10)), (4, .int (σ.1 12)), (5, .int (σ.1 2)), (6, .int (TKs σ.1 i)), (7, .int (FTs σ.1 i)), (8, .int 1), (9, .int (nI i))]) X.1 X.2.1 dL_holds_177 hl (by decide) rfl (fun ls hl => ?_)
        refine lv_iload X.1 X.2.1 dL_holds_179 (lv_at hl 5 rfl) ?_
        refine lv_iconst (v := 1) X.1 X.2.1 dL_holds_181 (by decide) ?_
        refine lv_icmp_eq (tgt := 191) X.1 X.2.1 dL_holds_182 (by decide) (fun c_182 => absurd c_182 (by decide)) (fun c_182 => ?_)
        refine lv_iload X.1 X.2.1 dL_holds_185 (lv_at hl 5 rfl) ?_
        refine lv_iconst (v := 3) X.1 X.2.1 dL_holds_187 (by decide) ?_
        refine lv_icmp_ne (tgt := 203) X.1 X.2.1 dL_holds_188 (by decide) (fun c_188 => absurd (by decide) c_188) (fun c_188 => ?_)
        refine lv_aload_n X.1 X.2.1 dL_holds_191 rfl (lv_at hl 6 rfl) ?_
        refine lv_iconst (v := 3) X.1 X.2.1 dL_holds_192 (by decide) ?_
        refine lv_iload X.1 X.2.1 dL_holds_193 (lv_at hl 15 rfl) ?_
        refine lv_iconst (v := 0) X.1 X.2.1 dL_holds_195 (by decide) ?_
        refine lv_iconst (v := 0) X.1 X.2.1 dL_holds_196 (by decide) ?_
        refine kG1 (rest := []) (As := [.ref h, .int 3, .int (nI i), .int 0, .int 0]) X hP hD hS hl.1 o33.len (q_room l hst G kk (by omega) o33 (nI i) 0 0 ) sl_L_138 ⟨Nat.le_of_ble_eq_true rfl, Nat.le_of_ble_eq_true rfl, rfl, rfl⟩ ⟨by show _ ≤ 200; omega, by show _ ≤ 1200; omega⟩ rfl (Nat.le_of_ble_eq_true rfl) dL_holds_197 (fun w34 r34 H locs hΦ a34 hP hD hS => ?_)
        obtain ⟨o34, rfl⟩ := hΦ
        replace a34 := a34.trans a33
        refine top_eq (y := (σ.1 (16 + 8 * i))) (qr_at ok (w := 0) hi (by decide)) ?_
        refine lv_goto (tgt := 232) X.1 X.2.1 dL_holds_200 (by decide) ?_
        refine lv_istore (lv' := [(16, .int (σ.1 (16 + 8 * i))), (15, .int (σ.1 (16 + 8 * i + 6))), (14, .int (σ.1 (16 + 8 * i + 5))), (13, .int (σ.1 (16 + 8 * i + 2))), (12, .int (σ.1 (16 + 8 * i + 1))), (11, .int (σ.1 (16 + 8 * i + 3))), (10, .int 3), (0, .ref h), (1, .int (nI (mF σ.1))), (2, .int (sX8_minutesLeft σ.1)), (3, .int (σ.1 10)), (4, .int (σ.1 12)), (5, .int (σ.1 2)), (6, .int (TKs σ.1 i)), (7, .int (FTs σ.1 i)), (8, .int 1), (9, .int (nI i))]) X.1 X.2.1 dL_holds_232 hl (by decide) rfl (fun ls hl => ?_)
        refine lv_iload X.1 X.2.1 dL_holds_234 (lv_at hl 13 rfl) ?_
        refine lv_iload X.1 X.2.1 dL_holds_236 (lv_at hl 0 rfl) ?_
        refine lv_iadd X.1 X.2.1 dL_holds_238 ?_
        refine top_eq (y := (TKs σ.1 (i + 1))) (by show _ = TKs σ.1 i + LDj σ.1 (JB σ.1 i) i; rw [hd1]; rfl) ?_
        refine lv_istore (lv' := [(6, .int (TKs σ.1 (i + 1))), (16, .int (σ.1 (16 + 8 * i))), (15, .int (σ.1 (16 + 8 * i + 6))), (14, .int (σ.1 (16 + 8 * i + 5))), (13, .int (σ.1 (16 + 8 * i + 2))), (12, .int (σ.1 (16 + 8 * i + 1))), (11, .int (σ.1 (16 + 8 * i + 3))), (10, .int 3), (0, .ref h), (1, .int (nI (mF σ.1))), (2, .int (sX8_minutesLeft σ.1)), (3, .int (σ.1 10)), (4, .int (σ.1 12)), (5, .int (σ.1 2)), (7, .int (FTs σ.1 i)), (8, .int 1), (9, .int (nI i))]) X.1 X.2.1 dL_holds_239 hl (by decide) rfl (fun ls hl => ?_)
        refine lv_iload X.1 X.2.1 dL_holds_241 (lv_at hl 14 rfl) ?_
        refine lv_iload X.1 X.2.1 dL_holds_243 (lv_at hl 7 rfl) ?_
        refine lv_iconst (v := 3) X.1 X.2.1 dL_holds_245 (by decide) ?_
        refine lv_icmp_eq (tgt := 255) X.1 X.2.1 dL_holds_246 (by decide) (fun c_246 => ?_) (fun c_246 => absurd (by decide) c_246)
        refine lv_iconst (v := 1) X.1 X.2.1 dL_holds_255 (by decide) ?_
        refine lv_goto (tgt := 260) X.1 X.2.1 dL_holds_256 (by decide) ?_
        refine lv_iadd X.1 X.2.1 dL_holds_260 ?_
        refine top_eq (y := (FTs σ.1 (i + 1))) (by show _ = FTs σ.1 i + (if JB σ.1 i = 3 ∨ JB σ.1 i = 5 then 1 else 0); rw [hd1]; rfl) ?_
        refine lv_istore (lv' := [(7, .int (FTs σ.1 (i + 1))), (6, .int (TKs σ.1 (i + 1))), (16, .int (σ.1 (16 + 8 * i))), (15, .int (σ.1 (16 + 8 * i + 6))), (14, .int (σ.1 (16 + 8 * i + 5))), (13, .int (σ.1 (16 + 8 * i + 2))), (12, .int (σ.1 (16 + 8 * i + 1))), (11, .int (σ.1 (16 + 8 * i + 3))), (10, .int 3), (0, .ref h), (1, .int (nI (mF σ.1))), (2, .int (sX8_minutesLeft σ.1)), (3, .int (σ.1 10)), (4, .int (σ.1 12)), (5, .int (σ.1 2)), (8, .int 1), (9, .int (nI i))]) X.1 X.2.1 dL_holds_261 hl (by decide) rfl (fun ls hl => ?_)
        refine lv_iload X.1 X.2.1 dL_holds_263 (lv_at hl 6 rfl) ?_
        refine lv_iload X.1 X.2.1 dL_holds_265 (lv_at hl 5 rfl) ?_
        refine lv_icmp_ge (tgt := 485) X.1 X.2.1 dL_holds_267 (by decide) (fun c_267 => absurd c_267 (fa)) (fun c_267 => ?_)
        refine lv_iload X.1 X.2.1 dL_holds_270 (lv_at hl 7 rfl) ?_
        refine lv_sipush (v := (-400)) X.1 X.2.1 dL_holds_272 (by decide) ?_
        refine lv_icmp_lt (tgt := 485) X.1 X.2.1 dL_holds_275 (by decide) (fun c_275 => absurd c_275 (fb)) (fun c_275 => ?_)
        refine lv_iload X.1 X.2.1 dL_holds_278 (lv_at hl 7 rfl) ?_
        refine lv_sipush (v := 400) X.1 X.2.1 dL_holds_280 (by decide) ?_
        refine lv_icmp_gt (tgt := 485) X.1 X.2.1 dL_holds_283 (by decide) (fun c_283 => absurd c_283 (fc)) (fun c_283 => ?_)
        refine lv_iload X.1 X.2.1 dL_holds_286 (lv_at hl 4 rfl) ?_
        refine lv_if_lt (tgt := 485) X.1 X.2.1 dL_holds_288 (by decide) (fun c_288 => absurd c_288 (fd)) (fun c_288 => ?_)
        refine lv_iload X.1 X.2.1 dL_holds_291 (lv_at hl 4 rfl) ?_
        refine lv_bipush (v := 100) X.1 X.2.1 dL_holds_293 (by decide) ?_
        refine lv_icmp_gt (tgt := 485) X.1 X.2.1 dL_holds_295 (by decide) (fun c_295 => absurd c_295 (fe)) (fun c_295 => ?_)
        refine lv_iload X.1 X.2.1 dL_holds_298 (lv_at hl 3 rfl) ?_
        refine lv_if_lt (tgt := 485) X.1 X.2.1 dL_holds_300 (by decide) (fun c_300 => absurd c_300 (ff)) (fun c_300 => ?_)
        refine lv_iload X.1 X.2.1 dL_holds_303 (lv_at hl 8 rfl) ?_
        refine lv_if_ne (tgt := 312) X.1 X.2.1 dL_holds_305 (by decide) (fun c_305 => ?_) (fun c_305 => absurd c_305 (by decide))
        refine lv_iconst (v := 0) X.1 X.2.1 dL_holds_312 (by decide) ?_
        refine lv_iload X.1 X.2.1 dL_holds_313 (lv_at hl 3 rfl) ?_
        refine lv_if_le (tgt := 322) X.1 X.2.1 dL_holds_315 (by decide) (fun c_315 => ?_) (fun c_315 => absurd ((by rw [g1]; exact Int32.le_refl 0)) c_315)
        refine lv_iconst (v := 0) X.1 X.2.1 dL_holds_322 (by decide) ?_
        refine lv_icmp_ne (tgt := 485) X.1 X.2.1 dL_holds_323 (by decide) (fun c_323 => absurd (by decide) c_323) (fun c_323 => ?_)
        refine lv_iload X.1 X.2.1 dL_holds_326 (lv_at hl 8 rfl) ?_
        refine lv_iconst (v := 1) X.1 X.2.1 dL_holds_328 (by decide) ?_
        refine lv_icmp_ne (tgt := 336) X.1 X.2.1 dL_holds_329 (by decide) (fun c_329 => ?_) (fun c_329 => absurd c_329 (by decide))
        refine lv_iconst (v := 0) X.1 X.2.1 dL_holds_336 (by decide) ?_
        refine lv_iload X.1 X.2.1 dL_holds_337 (lv_at hl 3 rfl) ?_
        refine lv_if_ne (tgt := 353) X.1 X.2.1 dL_holds_339 (by decide) (fun c_339 => absurd (g1) c_339) (fun c_339 => ?_)
        refine lv_iload X.1 X.2.1 dL_holds_342 (lv_at hl 7 rfl) ?_
        refine lv_iload X.1 X.2.1 dL_holds_344 (lv_at hl 5 rfl) ?_
        refine lv_icmp_lt (tgt := 353) X.1 X.2.1 dL_holds_346 (by decide) (fun c_346 => ?_) (fun c_346 => absurd (g3) c_346)
        refine lv_iconst (v := 0) X.1 X.2.1 dL_holds_353 (by decide) ?_
        refine lv_icmp_ne (tgt := 485) X.1 X.2.1 dL_holds_354 (by decide) (fun c_354 => absurd (by decide) c_354) (fun c_354 => ?_)
        refine lv_iload X.1 X.2.1 dL_holds_357 (lv_at hl 8 rfl) ?_
        refine lv_iconst (v := 2) X.1 X.2.1 dL_holds_359 (by decide) ?_
        refine lv_icmp_ne (tgt := 367) X.1 X.2.1 dL_holds_360 (by decide) (fun c_360 => ?_) (fun c_360 => absurd c_360 (by decide))
        refine lv_iconst (v := 0) X.1 X.2.1 dL_holds_367 (by decide) ?_
        refine lv_iload X.1 X.2.1 dL_holds_368 (lv_at hl 3 rfl) ?_
        refine lv_if_ne (tgt := 391) X.1 X.2.1 dL_holds_370 (by decide) (fun c_370 => absurd (g1) c_370) (fun c_370 => ?_)
        refine lv_iload X.1 X.2.1 dL_holds_373 (lv_at hl 7 rfl) ?_
        refine lv_iload X.1 X.2.1 dL_holds_375 (lv_at hl 5 rfl) ?_
        refine lv_icmp_ge (tgt := 391) X.1 X.2.1 dL_holds_377 (by decide) (fun c_377 => absurd c_377 (Int32.not_le.mpr g3)) (fun c_377 => ?_)
        refine lv_iload X.1 X.2.1 dL_holds_380 (lv_at hl 4 rfl) ?_
        refine lv_bipush (v := 100) X.1 X.2.1 dL_holds_382 (by decide) ?_
        refine lv_icmp_ne (tgt := 391) X.1 X.2.1 dL_holds_384 (by decide) (fun c_384 => ?_) (fun c_384 => absurd c_384 (g4))
        refine lv_iconst (v := 0) X.1 X.2.1 dL_holds_391 (by decide) ?_
        refine lv_icmp_ne (tgt := 485) X.1 X.2.1 dL_holds_392 (by decide) (fun c_392 => absurd (by decide) c_392) (fun c_392 => ?_)
        refine lv_iload X.1 X.2.1 dL_holds_395 (lv_at hl 8 rfl) ?_
        refine lv_iconst (v := 3) X.1 X.2.1 dL_holds_397 (by decide) ?_
        refine lv_icmp_eq (tgt := 407) X.1 X.2.1 dL_holds_398 (by decide) (fun c_398 => ?_) (fun c_398 => absurd (by decide) c_398)
        refine lv_iload X.1 X.2.1 dL_holds_407 (lv_at hl 7 rfl) ?_
        refine lv_iload X.1 X.2.1 dL_holds_409 (lv_at hl 6 rfl) ?_
        refine lv_icmp_le (tgt := 485) X.1 X.2.1 dL_holds_411 (by decide) (fun c_411 => absurd c_411 (g5)) (fun c_411 => ?_)
        refine lv_iload X.1 X.2.1 dL_holds_414 (lv_at hl 7 rfl) ?_
        refine lv_iload X.1 X.2.1 dL_holds_416 (lv_at hl 5 rfl) ?_
        refine lv_icmp_ge (tgt := 485) X.1 X.2.1 dL_holds_418 (by decide) (fun c_418 => absurd c_418 (Int32.not_le.mpr g3)) (fun c_418 => ?_)
        refine lv_iload X.1 X.2.1 dL_holds_421 (lv_at hl 8 rfl) ?_
        refine lv_iconst (v := 5) X.1 X.2.1 dL_holds_423 (by decide) ?_
        refine lv_icmp_eq (tgt := 434) X.1 X.2.1 dL_holds_424 (by decide) (fun c_424 => absurd c_424 (by decide)) (fun c_424 => ?_)
        refine lv_iload X.1 X.2.1 dL_holds_427 (lv_at hl 8 rfl) ?_
        refine lv_bipush (v := 6) X.1 X.2.1 dL_holds_429 (by decide) ?_
        refine lv_icmp_ne (tgt := 454) X.1 X.2.1 dL_holds_431 (by decide) (fun c_431 => ?_) (fun c_431 => absurd c_431 (by decide))
        refine lv_iload X.1 X.2.1 dL_holds_454 (lv_at hl 8 rfl) ?_
        refine lv_bipush (v := 7) X.1 X.2.1 dL_holds_456 (by decide) ?_
        refine lv_icmp_ne (tgt := 481) X.1 X.2.1 dL_holds_458 (by decide) (fun c_458 => ?_) (fun c_458 => absurd c_458 (by decide))
        refine lv_iconst (v := 1) X.1 X.2.1 dL_holds_481 (by decide) ?_
        refine lv_goto (tgt := 486) X.1 X.2.1 dL_holds_482 (by decide) ?_
        refine lv_istore (lv' := [(8, .int 1), (7, .int (FTs σ.1 (i + 1))), (6, .int (TKs σ.1 (i + 1))), (16, .int (σ.1 (16 + 8 * i))), (15, .int (σ.1 (16 + 8 * i + 6))), (14, .int (σ.1 (16 + 8 * i + 5))), (13, .int (σ.1 (16 + 8 * i + 2))), (12, .int (σ.1 (16 + 8 * i + 1))), (11, .int (σ.1 (16 + 8 * i + 3))), (10, .int 3), (0, .ref h), (1, .int (nI (mF σ.1))), (2, .int (sX8_minutesLeft σ.1)), (3, .int (σ.1 10)), (4, .int (σ.1 12)), (5, .int (σ.1 2)), (9, .int (nI i))]) X.1 X.2.1 dL_holds_486 hl (by decide) rfl (fun ls hl => ?_)
        refine lv_iinc (v := (nI (i + 1))) (lv' := [(9, .int (nI (i + 1))), (8, .int 1), (7, .int (FTs σ.1 (i + 1))), (6, .int (TKs σ.1 (i + 1))), (16, .int (σ.1 (16 + 8 * i))), (15, .int (σ.1 (16 + 8 * i + 6))), (14, .int (σ.1 (16 + 8 * i + 5))), (13, .int (σ.1 (16 + 8 * i + 2))), (12, .int (σ.1 (16 + 8 * i + 1))), (11, .int (σ.1 (16 + 8 * i + 3))), (10, .int 3), (0, .ref h), (1, .int (nI (mF σ.1))), (2, .int (sX8_minutesLeft σ.1)), (3, .int (σ.1 10)), (4, .int (σ.1 12)), (5, .int (σ.1 2))]) X.1 X.2.1 dL_holds_488 hl (k := 16) rfl (nI_add i 1) (by decide) rfl (fun ls hl => ?_)
        refine lv_goto (tgt := 101) X.1 X.2.1 dL_holds_491 (by decide) ?_
        refine W.widen (k := 20 + 20 * (i + 1)) (n := 120 + 120 * (i + 1)) (by omega) (by omega) ?_
        exact ih (i + 1) _ o34 a34  _ _ ls hP hD hS (lv_sub hl [11, 12, 13, 14, 15, 16, 3, 2, 1, 0] rfl) (by omega)
      · skip
        refine kG1 (rest := []) (As := [.ref h, .int 4, .int (nI i), .int 0, .int 0]) X hP hD hS hl.1 o4.len (q_does l hst G kk (by omega) o4 (nI i) 0 0 ) sl_L_138 ⟨Nat.le_of_ble_eq_true rfl, Nat.le_of_ble_eq_true rfl, rfl, rfl⟩ ⟨by show _ ≤ 200; omega, by show _ ≤ 1200; omega⟩ rfl (Nat.le_of_ble_eq_true rfl) dL_holds_118 (fun w35 r35 H locs hΦ a35 hP hD hS => ?_)
        obtain ⟨o35, rfl⟩ := hΦ
        replace a35 := a35.trans a4
        refine top_eq (y := 4) ((qd_at ok hi).trans hd1) ?_
        refine lv_istore (lv' := [(10, .int 4), (0, .ref h), (1, .int (nI (mF σ.1))), (2, .int (sX8_minutesLeft σ.1)), (3, .int (σ.1 10)), (4, .int (σ.1 12)), (5, .int (σ.1 2)), (6, .int (TKs σ.1 i)), (7, .int (FTs σ.1 i)), (8, .int 1), (9, .int (nI i))]) X.1 X.2.1 dL_holds_121 hl (by decide) rfl (fun ls hl => ?_)
        refine lv_aload_n X.1 X.2.1 dL_holds_123 rfl (lv_at hl 1 rfl) ?_
        refine lv_iconst (v := 3) X.1 X.2.1 dL_holds_124 (by decide) ?_
        refine lv_iload X.1 X.2.1 dL_holds_125 (lv_at hl 10 rfl) ?_
        refine lv_iconst (v := 3) X.1 X.2.1 dL_holds_127 (by decide) ?_
        refine lv_iconst (v := 0) X.1 X.2.1 dL_holds_128 (by decide) ?_
        refine kG1 (rest := []) (As := [.ref h, .int 3, .int (nI i), .int 3, .int 0]) X hP hD hS hl.1 o35.len (q_room l hst G kk (by omega) o35 (nI i) 3 0 ) sl_L_138 ⟨Nat.le_of_ble_eq_true rfl, Nat.le_of_ble_eq_true rfl, rfl, rfl⟩ ⟨by show _ ≤ 200; omega, by show _ ≤ 1200; omega⟩ rfl (Nat.le_of_ble_eq_true rfl) dL_holds_129 (fun w36 r36 H locs hΦ a36 hP hD hS => ?_)
        obtain ⟨o36, rfl⟩ := hΦ
        replace a36 := a36.trans a35
        refine top_eq (y := (σ.1 (16 + 8 * i + 3))) (qr_at ok (w := 3) hi (by decide)) ?_
        refine lv_istore (lv' := [(11, .int (σ.1 (16 + 8 * i + 3))), (10, .int 4), (0, .ref h), (1, .int (nI (mF σ.1))), (2, .int (sX8_minutesLeft σ.1)), (3, .int (σ.1 10)), (4, .int (σ.1 12)), (5, .int (σ.1 2)), (6, .int (TKs σ.1 i)), (7, .int (FTs σ.1 i)), (8, .int 1), (9, .int (nI i))]) X.1 X.2.1 dL_holds_132 hl (by decide) rfl (fun ls hl => ?_)
        refine lv_aload_n X.1 X.2.1 dL_holds_134 rfl (lv_at hl 2 rfl) ?_
        refine lv_iconst (v := 3) X.1 X.2.1 dL_holds_135 (by decide) ?_
        refine lv_iload X.1 X.2.1 dL_holds_136 (lv_at hl 11 rfl) ?_
        refine lv_iconst (v := 1) X.1 X.2.1 dL_holds_138 (by decide) ?_
        refine lv_iconst (v := 0) X.1 X.2.1 dL_holds_139 (by decide) ?_
        refine kG1 (rest := []) (As := [.ref h, .int 3, .int (nI i), .int 1, .int 0]) X hP hD hS hl.1 o36.len (q_room l hst G kk (by omega) o36 (nI i) 1 0 ) sl_L_138 ⟨Nat.le_of_ble_eq_true rfl, Nat.le_of_ble_eq_true rfl, rfl, rfl⟩ ⟨by show _ ≤ 200; omega, by show _ ≤ 1200; omega⟩ rfl (Nat.le_of_ble_eq_true rfl) dL_holds_140 (fun w37 r37 H locs hΦ a37 hP hD hS => ?_)
        obtain ⟨o37, rfl⟩ := hΦ
        replace a37 := a37.trans a36
        refine top_eq (y := (σ.1 (16 + 8 * i + 1))) (qr_at ok (w := 1) hi (by decide)) ?_
        refine lv_istore (lv' := [(12, .int (σ.1 (16 + 8 * i + 1))), (11, .int (σ.1 (16 + 8 * i + 3))), (10, .int 4), (0, .ref h), (1, .int (nI (mF σ.1))), (2, .int (sX8_minutesLeft σ.1)), (3, .int (σ.1 10)), (4, .int (σ.1 12)), (5, .int (σ.1 2)), (6, .int (TKs σ.1 i)), (7, .int (FTs σ.1 i)), (8, .int 1), (9, .int (nI i))]) X.1 X.2.1 dL_holds_143 hl (by decide) rfl (fun ls hl => ?_)
        refine lv_aload_n X.1 X.2.1 dL_holds_145 rfl (lv_at hl 3 rfl) ?_
        refine lv_iconst (v := 3) X.1 X.2.1 dL_holds_146 (by decide) ?_
        refine lv_iload X.1 X.2.1 dL_holds_147 (lv_at hl 12 rfl) ?_
        refine lv_iconst (v := 2) X.1 X.2.1 dL_holds_149 (by decide) ?_
        refine lv_iconst (v := 0) X.1 X.2.1 dL_holds_150 (by decide) ?_
        refine kG1 (rest := []) (As := [.ref h, .int 3, .int (nI i), .int 2, .int 0]) X hP hD hS hl.1 o37.len (q_room l hst G kk (by omega) o37 (nI i) 2 0 ) sl_L_138 ⟨Nat.le_of_ble_eq_true rfl, Nat.le_of_ble_eq_true rfl, rfl, rfl⟩ ⟨by show _ ≤ 200; omega, by show _ ≤ 1200; omega⟩ rfl (Nat.le_of_ble_eq_true rfl) dL_holds_151 (fun w38 r38 H locs hΦ a38 hP hD hS => ?_)
        obtain ⟨o38, rfl⟩ := hΦ
        replace a38 := a38.trans a37
        refine top_eq (y := (σ.1 (16 + 8 * i + 2))) (qr_at ok (w := 2) hi (by decide)) ?_
        refine lv_istore (lv' := [(13, .int (σ.1 (16 + 8 * i + 2))), (12, .int (σ.1 (16 + 8 * i + 1))), (11, .int (σ.1 (16 + 8 * i + 3))), (10, .int 4), (0, .ref h), (1, .int (nI (mF σ.1))), (2, .int (sX8_minutesLeft σ.1)), (3, .int (σ.1 10)), (4, .int (σ.1 12)), (5, .int (σ.1 2)), (6, .int (TKs σ.1 i)), (7, .int (FTs σ.1 i)), (8, .int 1), (9, .int (nI i))]) X.1 X.2.1 dL_holds_154 hl (by decide) rfl (fun ls hl => ?_)
        refine lv_aload_n X.1 X.2.1 dL_holds_156 rfl (lv_at hl 4 rfl) ?_
        refine lv_iconst (v := 3) X.1 X.2.1 dL_holds_157 (by decide) ?_
        refine lv_iload X.1 X.2.1 dL_holds_158 (lv_at hl 13 rfl) ?_
        refine lv_iconst (v := 5) X.1 X.2.1 dL_holds_160 (by decide) ?_
        refine lv_iconst (v := 0) X.1 X.2.1 dL_holds_161 (by decide) ?_
        refine kG1 (rest := []) (As := [.ref h, .int 3, .int (nI i), .int 5, .int 0]) X hP hD hS hl.1 o38.len (q_room l hst G kk (by omega) o38 (nI i) 5 0 ) sl_L_138 ⟨Nat.le_of_ble_eq_true rfl, Nat.le_of_ble_eq_true rfl, rfl, rfl⟩ ⟨by show _ ≤ 200; omega, by show _ ≤ 1200; omega⟩ rfl (Nat.le_of_ble_eq_true rfl) dL_holds_162 (fun w39 r39 H locs hΦ a39 hP hD hS => ?_)
        obtain ⟨o39, rfl⟩ := hΦ
        replace a39 := a39.trans a38
        refine top_eq (y := (σ.1 (16 + 8 * i + 5))) (qr_at ok (w := 5) hi (by decide)) ?_
        refine lv_istore (lv' := [(14, .int (σ.1 (16 + 8 * i + 5))), (13, .int (σ.1 (16 + 8 * i + 2))), (12, .int (σ.1 (16 + 8 * i + 1))), (11, .int (σ.1 (16 + 8 * i + 3))), (10, .int 4), (0, .ref h), (1, .int (nI (mF σ.1))), (2, .int (sX8_minutesLeft σ.1)), (3, .int (σ.1 10)), (4, .int (σ.1 12)), (5, .int (σ.1 2)), (6, .int (TKs σ.1 i)), (7, .int (FTs σ.1 i)), (8, .int 1), (9, .int (nI i))]) X.1 X.2.1 dL_holds_165 hl (by decide) rfl (fun ls hl => ?_)
        refine lv_aload_n X.1 X.2.1 dL_holds_167 rfl (lv_at hl 5 rfl) ?_
        refine lv_iconst (v := 3) X.1 X.2.1 dL_holds_168 (by decide) ?_
        refine lv_iload X.1 X.2.1 dL_holds_169 (lv_at hl 14 rfl) ?_
        refine lv_bipush (v := 6) X.1 X.2.1 dL_holds_171 (by decide) ?_
        refine lv_iconst (v := 0) X.1 X.2.1 dL_holds_173 (by decide) ?_
        refine kG1 (rest := []) (As := [.ref h, .int 3, .int (nI i), .int 6, .int 0]) X hP hD hS hl.1 o39.len (q_room l hst G kk (by omega) o39 (nI i) 6 0 ) sl_L_138 ⟨Nat.le_of_ble_eq_true rfl, Nat.le_of_ble_eq_true rfl, rfl, rfl⟩ ⟨by show _ ≤ 200; omega, by show _ ≤ 1200; omega⟩ rfl (Nat.le_of_ble_eq_true rfl) dL_holds_174 (fun w40 r40 H locs hΦ a40 hP hD hS => ?_)
        obtain ⟨o40, rfl⟩ := hΦ
        replace a40 := a40.trans a39
        refine top_eq (y := (σ.1 (16 + 8 * i + 6))) (qr_at ok (w := 6) hi (by decide)) ?_
        refine lv_istore (lv' := [(15, .int (σ.1 (16 + 8 * i + 6))), (14, .int (σ.1 (16 + 8 * i + 5))), (13, .int (σ.1 (16 + 8 * i + 2))), (12, .int (σ.1 (16 + 8 * i + 1))), (11, .int (σ.1 (16 + 8 * i + 3))), (10, .int 4), (0, .ref h), (1, .int (nI (mF σ.1))), (2, .int (sX8_minutesLeft σ.1)), (3, .int (σ.1 10)), (4, .int (σ.1 12)), (5, .int (σ.1 2)), (6, .int (TKs σ.1 i)), (7, .int (FTs σ.1 i)), (8, .int 1), (9, .int (nI i))]) X.1 X.2.1 dL_holds_177 hl (by decide) rfl (fun ls hl => ?_)
        refine lv_iload X.1 X.2.1 dL_holds_179 (lv_at hl 5 rfl) ?_
        refine lv_iconst (v := 1) X.1 X.2.1 dL_holds_181 (by decide) ?_
        refine lv_icmp_eq (tgt := 191) X.1 X.2.1 dL_holds_182 (by decide) (fun c_182 => absurd c_182 (by decide)) (fun c_182 => ?_)
        refine lv_iload X.1 X.2.1 dL_holds_185 (lv_at hl 5 rfl) ?_
        refine lv_iconst (v := 3) X.1 X.2.1 dL_holds_187 (by decide) ?_
        refine lv_icmp_ne (tgt := 203) X.1 X.2.1 dL_holds_188 (by decide) (fun c_188 => ?_) (fun c_188 => absurd c_188 (by decide))
        refine lv_iload X.1 X.2.1 dL_holds_203 (lv_at hl 5 rfl) ?_
        refine lv_if_eq (tgt := 220) X.1 X.2.1 dL_holds_205 (by decide) (fun c_205 => absurd c_205 (by decide)) (fun c_205 => ?_)
        refine lv_iload X.1 X.2.1 dL_holds_208 (lv_at hl 5 rfl) ?_
        refine lv_iconst (v := 2) X.1 X.2.1 dL_holds_210 (by decide) ?_
        refine lv_icmp_eq (tgt := 220) X.1 X.2.1 dL_holds_211 (by decide) (fun c_211 => absurd c_211 (by decide)) (fun c_211 => ?_)
        refine lv_iload X.1 X.2.1 dL_holds_214 (lv_at hl 5 rfl) ?_
        refine lv_iconst (v := 5) X.1 X.2.1 dL_holds_216 (by decide) ?_
        refine lv_icmp_ne (tgt := 231) X.1 X.2.1 dL_holds_217 (by decide) (fun c_217 => ?_) (fun c_217 => absurd c_217 (by decide))
        refine lv_iconst (v := 0) X.1 X.2.1 dL_holds_231 (by decide) ?_
        refine lv_istore (lv' := [(16, .int 0), (15, .int (σ.1 (16 + 8 * i + 6))), (14, .int (σ.1 (16 + 8 * i + 5))), (13, .int (σ.1 (16 + 8 * i + 2))), (12, .int (σ.1 (16 + 8 * i + 1))), (11, .int (σ.1 (16 + 8 * i + 3))), (10, .int 4), (0, .ref h), (1, .int (nI (mF σ.1))), (2, .int (sX8_minutesLeft σ.1)), (3, .int (σ.1 10)), (4, .int (σ.1 12)), (5, .int (σ.1 2)), (6, .int (TKs σ.1 i)), (7, .int (FTs σ.1 i)), (8, .int 1), (9, .int (nI i))]) X.1 X.2.1 dL_holds_232 hl (by decide) rfl (fun ls hl => ?_)
        refine lv_iload X.1 X.2.1 dL_holds_234 (lv_at hl 13 rfl) ?_
        refine lv_iload X.1 X.2.1 dL_holds_236 (lv_at hl 0 rfl) ?_
        refine lv_iadd X.1 X.2.1 dL_holds_238 ?_
        refine top_eq (y := (TKs σ.1 (i + 1))) (by show _ = TKs σ.1 i + LDj σ.1 (JB σ.1 i) i; rw [hd1]; rfl) ?_
        refine lv_istore (lv' := [(6, .int (TKs σ.1 (i + 1))), (16, .int 0), (15, .int (σ.1 (16 + 8 * i + 6))), (14, .int (σ.1 (16 + 8 * i + 5))), (13, .int (σ.1 (16 + 8 * i + 2))), (12, .int (σ.1 (16 + 8 * i + 1))), (11, .int (σ.1 (16 + 8 * i + 3))), (10, .int 4), (0, .ref h), (1, .int (nI (mF σ.1))), (2, .int (sX8_minutesLeft σ.1)), (3, .int (σ.1 10)), (4, .int (σ.1 12)), (5, .int (σ.1 2)), (7, .int (FTs σ.1 i)), (8, .int 1), (9, .int (nI i))]) X.1 X.2.1 dL_holds_239 hl (by decide) rfl (fun ls hl => ?_)
        refine lv_iload X.1 X.2.1 dL_holds_241 (lv_at hl 14 rfl) ?_
        refine lv_iload X.1 X.2.1 dL_holds_243 (lv_at hl 7 rfl) ?_
        refine lv_iconst (v := 3) X.1 X.2.1 dL_holds_245 (by decide) ?_
        refine lv_icmp_eq (tgt := 255) X.1 X.2.1 dL_holds_246 (by decide) (fun c_246 => absurd c_246 (by decide)) (fun c_246 => ?_)
        refine lv_iload X.1 X.2.1 dL_holds_249 (lv_at hl 7 rfl) ?_
        refine lv_iconst (v := 5) X.1 X.2.1 dL_holds_251 (by decide) ?_
        refine lv_icmp_ne (tgt := 259) X.1 X.2.1 dL_holds_252 (by decide) (fun c_252 => ?_) (fun c_252 => absurd c_252 (by decide))
        refine lv_iconst (v := 0) X.1 X.2.1 dL_holds_259 (by decide) ?_
        refine lv_iadd X.1 X.2.1 dL_holds_260 ?_
        refine top_eq (y := (FTs σ.1 (i + 1))) (by show _ = FTs σ.1 i + (if JB σ.1 i = 3 ∨ JB σ.1 i = 5 then 1 else 0); rw [hd1]; rfl) ?_
        refine lv_istore (lv' := [(7, .int (FTs σ.1 (i + 1))), (6, .int (TKs σ.1 (i + 1))), (16, .int 0), (15, .int (σ.1 (16 + 8 * i + 6))), (14, .int (σ.1 (16 + 8 * i + 5))), (13, .int (σ.1 (16 + 8 * i + 2))), (12, .int (σ.1 (16 + 8 * i + 1))), (11, .int (σ.1 (16 + 8 * i + 3))), (10, .int 4), (0, .ref h), (1, .int (nI (mF σ.1))), (2, .int (sX8_minutesLeft σ.1)), (3, .int (σ.1 10)), (4, .int (σ.1 12)), (5, .int (σ.1 2)), (8, .int 1), (9, .int (nI i))]) X.1 X.2.1 dL_holds_261 hl (by decide) rfl (fun ls hl => ?_)
        refine lv_iload X.1 X.2.1 dL_holds_263 (lv_at hl 6 rfl) ?_
        refine lv_iload X.1 X.2.1 dL_holds_265 (lv_at hl 5 rfl) ?_
        refine lv_icmp_ge (tgt := 485) X.1 X.2.1 dL_holds_267 (by decide) (fun c_267 => absurd c_267 (fa)) (fun c_267 => ?_)
        refine lv_iload X.1 X.2.1 dL_holds_270 (lv_at hl 7 rfl) ?_
        refine lv_sipush (v := (-400)) X.1 X.2.1 dL_holds_272 (by decide) ?_
        refine lv_icmp_lt (tgt := 485) X.1 X.2.1 dL_holds_275 (by decide) (fun c_275 => absurd c_275 (fb)) (fun c_275 => ?_)
        refine lv_iload X.1 X.2.1 dL_holds_278 (lv_at hl 7 rfl) ?_
        refine lv_sipush (v := 400) X.1 X.2.1 dL_holds_280 (by decide) ?_
        refine lv_icmp_gt (tgt := 485) X.1 X.2.1 dL_holds_283 (by decide) (fun c_283 => absurd c_283 (fc)) (fun c_283 => ?_)
        refine lv_iload X.1 X.2.1 dL_holds_286 (lv_at hl 4 rfl) ?_
        refine lv_if_lt (tgt := 485) X.1 X.2.1 dL_holds_288 (by decide) (fun c_288 => absurd c_288 (fd)) (fun c_288 => ?_)
        refine lv_iload X.1 X.2.1 dL_holds_291 (lv_at hl 4 rfl) ?_
        refine lv_bipush (v := 100) X.1 X.2.1 dL_holds_293 (by decide) ?_
        refine lv_icmp_gt (tgt := 485) X.1 X.2.1 dL_holds_295 (by decide) (fun c_295 => absurd c_295 (fe)) (fun c_295 => ?_)
        refine lv_iload X.1 X.2.1 dL_holds_298 (lv_at hl 3 rfl) ?_
        refine lv_if_lt (tgt := 485) X.1 X.2.1 dL_holds_300 (by decide) (fun c_300 => absurd c_300 (ff)) (fun c_300 => ?_)
        refine lv_iload X.1 X.2.1 dL_holds_303 (lv_at hl 8 rfl) ?_
        refine lv_if_ne (tgt := 312) X.1 X.2.1 dL_holds_305 (by decide) (fun c_305 => ?_) (fun c_305 => absurd c_305 (by decide))
        refine lv_iconst (v := 0) X.1 X.2.1 dL_holds_312 (by decide) ?_
        refine lv_iload X.1 X.2.1 dL_holds_313 (lv_at hl 3 rfl) ?_
        refine lv_if_le (tgt := 322) X.1 X.2.1 dL_holds_315 (by decide) (fun c_315 => ?_) (fun c_315 => absurd ((by rw [g1]; exact Int32.le_refl 0)) c_315)
        refine lv_iconst (v := 0) X.1 X.2.1 dL_holds_322 (by decide) ?_
        refine lv_icmp_ne (tgt := 485) X.1 X.2.1 dL_holds_323 (by decide) (fun c_323 => absurd (by decide) c_323) (fun c_323 => ?_)
        refine lv_iload X.1 X.2.1 dL_holds_326 (lv_at hl 8 rfl) ?_
        refine lv_iconst (v := 1) X.1 X.2.1 dL_holds_328 (by decide) ?_
        refine lv_icmp_ne (tgt := 336) X.1 X.2.1 dL_holds_329 (by decide) (fun c_329 => ?_) (fun c_329 => absurd c_329 (by decide))
        refine lv_iconst (v := 0) X.1 X.2.1 dL_holds_336 (by decide) ?_
        refine lv_iload X.1 X.2.1 dL_holds_337 (lv_at hl 3 rfl) ?_
        refine lv_if_ne (tgt := 353) X.1 X.2.1 dL_holds_339 (by decide) (fun c_339 => absurd (g1) c_339) (fun c_339 => ?_)
        refine lv_iload X.1 X.2.1 dL_holds_342 (lv_at hl 7 rfl) ?_
        refine lv_iload X.1 X.2.1 dL_holds_344 (lv_at hl 5 rfl) ?_
        refine lv_icmp_lt (tgt := 353) X.1 X.2.1 dL_holds_346 (by decide) (fun c_346 => ?_) (fun c_346 => absurd (g3) c_346)
        refine lv_iconst (v := 0) X.1 X.2.1 dL_holds_353 (by decide) ?_
        refine lv_icmp_ne (tgt := 485) X.1 X.2.1 dL_holds_354 (by decide) (fun c_354 => absurd (by decide) c_354) (fun c_354 => ?_)
        refine lv_iload X.1 X.2.1 dL_holds_357 (lv_at hl 8 rfl) ?_
        refine lv_iconst (v := 2) X.1 X.2.1 dL_holds_359 (by decide) ?_
        refine lv_icmp_ne (tgt := 367) X.1 X.2.1 dL_holds_360 (by decide) (fun c_360 => ?_) (fun c_360 => absurd c_360 (by decide))
        refine lv_iconst (v := 0) X.1 X.2.1 dL_holds_367 (by decide) ?_
        refine lv_iload X.1 X.2.1 dL_holds_368 (lv_at hl 3 rfl) ?_
        refine lv_if_ne (tgt := 391) X.1 X.2.1 dL_holds_370 (by decide) (fun c_370 => absurd (g1) c_370) (fun c_370 => ?_)
        refine lv_iload X.1 X.2.1 dL_holds_373 (lv_at hl 7 rfl) ?_
        refine lv_iload X.1 X.2.1 dL_holds_375 (lv_at hl 5 rfl) ?_
        refine lv_icmp_ge (tgt := 391) X.1 X.2.1 dL_holds_377 (by decide) (fun c_377 => absurd c_377 (Int32.not_le.mpr g3)) (fun c_377 => ?_)
        refine lv_iload X.1 X.2.1 dL_holds_380 (lv_at hl 4 rfl) ?_
        refine lv_bipush (v := 100) X.1 X.2.1 dL_holds_382 (by decide) ?_
        refine lv_icmp_ne (tgt := 391) X.1 X.2.1 dL_holds_384 (by decide) (fun c_384 => ?_) (fun c_384 => absurd c_384 (g4))
        refine lv_iconst (v := 0) X.1 X.2.1 dL_holds_391 (by decide) ?_
        refine lv_icmp_ne (tgt := 485) X.1 X.2.1 dL_holds_392 (by decide) (fun c_392 => absurd (by decide) c_392) (fun c_392 => ?_)
        refine lv_iload X.1 X.2.1 dL_holds_395 (lv_at hl 8 rfl) ?_
        refine lv_iconst (v := 3) X.1 X.2.1 dL_holds_397 (by decide) ?_
        refine lv_icmp_eq (tgt := 407) X.1 X.2.1 dL_holds_398 (by decide) (fun c_398 => absurd c_398 (by decide)) (fun c_398 => ?_)
        refine lv_iload X.1 X.2.1 dL_holds_401 (lv_at hl 8 rfl) ?_
        refine lv_iconst (v := 4) X.1 X.2.1 dL_holds_403 (by decide) ?_
        refine lv_icmp_ne (tgt := 421) X.1 X.2.1 dL_holds_404 (by decide) (fun c_404 => absurd (by decide) c_404) (fun c_404 => ?_)
        refine lv_iload X.1 X.2.1 dL_holds_407 (lv_at hl 7 rfl) ?_
        refine lv_iload X.1 X.2.1 dL_holds_409 (lv_at hl 6 rfl) ?_
        refine lv_icmp_le (tgt := 485) X.1 X.2.1 dL_holds_411 (by decide) (fun c_411 => absurd c_411 (g5)) (fun c_411 => ?_)
        refine lv_iload X.1 X.2.1 dL_holds_414 (lv_at hl 7 rfl) ?_
        refine lv_iload X.1 X.2.1 dL_holds_416 (lv_at hl 5 rfl) ?_
        refine lv_icmp_ge (tgt := 485) X.1 X.2.1 dL_holds_418 (by decide) (fun c_418 => absurd c_418 (Int32.not_le.mpr g3)) (fun c_418 => ?_)
        refine lv_iload X.1 X.2.1 dL_holds_421 (lv_at hl 8 rfl) ?_
        refine lv_iconst (v := 5) X.1 X.2.1 dL_holds_423 (by decide) ?_
        refine lv_icmp_eq (tgt := 434) X.1 X.2.1 dL_holds_424 (by decide) (fun c_424 => absurd c_424 (by decide)) (fun c_424 => ?_)
        refine lv_iload X.1 X.2.1 dL_holds_427 (lv_at hl 8 rfl) ?_
        refine lv_bipush (v := 6) X.1 X.2.1 dL_holds_429 (by decide) ?_
        refine lv_icmp_ne (tgt := 454) X.1 X.2.1 dL_holds_431 (by decide) (fun c_431 => ?_) (fun c_431 => absurd c_431 (by decide))
        refine lv_iload X.1 X.2.1 dL_holds_454 (lv_at hl 8 rfl) ?_
        refine lv_bipush (v := 7) X.1 X.2.1 dL_holds_456 (by decide) ?_
        refine lv_icmp_ne (tgt := 481) X.1 X.2.1 dL_holds_458 (by decide) (fun c_458 => ?_) (fun c_458 => absurd c_458 (by decide))
        refine lv_iconst (v := 1) X.1 X.2.1 dL_holds_481 (by decide) ?_
        refine lv_goto (tgt := 486) X.1 X.2.1 dL_holds_482 (by decide) ?_
        refine lv_istore (lv' := [(8, .int 1), (7, .int (FTs σ.1 (i + 1))), (6, .int (TKs σ.1 (i + 1))), (16, .int 0), (15, .int (σ.1 (16 + 8 * i + 6))), (14, .int (σ.1 (16 + 8 * i + 5))), (13, .int (σ.1 (16 + 8 * i + 2))), (12, .int (σ.1 (16 + 8 * i + 1))), (11, .int (σ.1 (16 + 8 * i + 3))), (10, .int 4), (0, .ref h), (1, .int (nI (mF σ.1))), (2, .int (sX8_minutesLeft σ.1)), (3, .int (σ.1 10)), (4, .int (σ.1 12)), (5, .int (σ.1 2)), (9, .int (nI i))]) X.1 X.2.1 dL_holds_486 hl (by decide) rfl (fun ls hl => ?_)
        refine lv_iinc (v := (nI (i + 1))) (lv' := [(9, .int (nI (i + 1))), (8, .int 1), (7, .int (FTs σ.1 (i + 1))), (6, .int (TKs σ.1 (i + 1))), (16, .int 0), (15, .int (σ.1 (16 + 8 * i + 6))), (14, .int (σ.1 (16 + 8 * i + 5))), (13, .int (σ.1 (16 + 8 * i + 2))), (12, .int (σ.1 (16 + 8 * i + 1))), (11, .int (σ.1 (16 + 8 * i + 3))), (10, .int 4), (0, .ref h), (1, .int (nI (mF σ.1))), (2, .int (sX8_minutesLeft σ.1)), (3, .int (σ.1 10)), (4, .int (σ.1 12)), (5, .int (σ.1 2))]) X.1 X.2.1 dL_holds_488 hl (k := 16) rfl (nI_add i 1) (by decide) rfl (fun ls hl => ?_)
        refine lv_goto (tgt := 101) X.1 X.2.1 dL_holds_491 (by decide) ?_
        refine W.widen (k := 20 + 20 * (i + 1)) (n := 120 + 120 * (i + 1)) (by omega) (by omega) ?_
        exact ih (i + 1) _ o40 a40  _ _ ls hP hD hS (lv_sub hl [11, 12, 13, 14, 15, 16, 3, 2, 1, 0] rfl) (by omega)
      · skip
        refine kG1 (rest := []) (As := [.ref h, .int 4, .int (nI i), .int 0, .int 0]) X hP hD hS hl.1 o4.len (q_does l hst G kk (by omega) o4 (nI i) 0 0 ) sl_L_138 ⟨Nat.le_of_ble_eq_true rfl, Nat.le_of_ble_eq_true rfl, rfl, rfl⟩ ⟨by show _ ≤ 200; omega, by show _ ≤ 1200; omega⟩ rfl (Nat.le_of_ble_eq_true rfl) dL_holds_118 (fun w41 r41 H locs hΦ a41 hP hD hS => ?_)
        obtain ⟨o41, rfl⟩ := hΦ
        replace a41 := a41.trans a4
        refine top_eq (y := 5) ((qd_at ok hi).trans hd1) ?_
        refine lv_istore (lv' := [(10, .int 5), (0, .ref h), (1, .int (nI (mF σ.1))), (2, .int (sX8_minutesLeft σ.1)), (3, .int (σ.1 10)), (4, .int (σ.1 12)), (5, .int (σ.1 2)), (6, .int (TKs σ.1 i)), (7, .int (FTs σ.1 i)), (8, .int 1), (9, .int (nI i))]) X.1 X.2.1 dL_holds_121 hl (by decide) rfl (fun ls hl => ?_)
        refine lv_aload_n X.1 X.2.1 dL_holds_123 rfl (lv_at hl 1 rfl) ?_
        refine lv_iconst (v := 3) X.1 X.2.1 dL_holds_124 (by decide) ?_
        refine lv_iload X.1 X.2.1 dL_holds_125 (lv_at hl 10 rfl) ?_
        refine lv_iconst (v := 3) X.1 X.2.1 dL_holds_127 (by decide) ?_
        refine lv_iconst (v := 0) X.1 X.2.1 dL_holds_128 (by decide) ?_
        refine kG1 (rest := []) (As := [.ref h, .int 3, .int (nI i), .int 3, .int 0]) X hP hD hS hl.1 o41.len (q_room l hst G kk (by omega) o41 (nI i) 3 0 ) sl_L_138 ⟨Nat.le_of_ble_eq_true rfl, Nat.le_of_ble_eq_true rfl, rfl, rfl⟩ ⟨by show _ ≤ 200; omega, by show _ ≤ 1200; omega⟩ rfl (Nat.le_of_ble_eq_true rfl) dL_holds_129 (fun w42 r42 H locs hΦ a42 hP hD hS => ?_)
        obtain ⟨o42, rfl⟩ := hΦ
        replace a42 := a42.trans a41
        refine top_eq (y := (σ.1 (16 + 8 * i + 3))) (qr_at ok (w := 3) hi (by decide)) ?_
        refine lv_istore (lv' := [(11, .int (σ.1 (16 + 8 * i + 3))), (10, .int 5), (0, .ref h), (1, .int (nI (mF σ.1))), (2, .int (sX8_minutesLeft σ.1)), (3, .int (σ.1 10)), (4, .int (σ.1 12)), (5, .int (σ.1 2)), (6, .int (TKs σ.1 i)), (7, .int (FTs σ.1 i)), (8, .int 1), (9, .int (nI i))]) X.1 X.2.1 dL_holds_132 hl (by decide) rfl (fun ls hl => ?_)
        refine lv_aload_n X.1 X.2.1 dL_holds_134 rfl (lv_at hl 2 rfl) ?_
        refine lv_iconst (v := 3) X.1 X.2.1 dL_holds_135 (by decide) ?_
        refine lv_iload X.1 X.2.1 dL_holds_136 (lv_at hl 11 rfl) ?_
        refine lv_iconst (v := 1) X.1 X.2.1 dL_holds_138 (by decide) ?_
        refine lv_iconst (v := 0) X.1 X.2.1 dL_holds_139 (by decide) ?_
        refine kG1 (rest := []) (As := [.ref h, .int 3, .int (nI i), .int 1, .int 0]) X hP hD hS hl.1 o42.len (q_room l hst G kk (by omega) o42 (nI i) 1 0 ) sl_L_138 ⟨Nat.le_of_ble_eq_true rfl, Nat.le_of_ble_eq_true rfl, rfl, rfl⟩ ⟨by show _ ≤ 200; omega, by show _ ≤ 1200; omega⟩ rfl (Nat.le_of_ble_eq_true rfl) dL_holds_140 (fun w43 r43 H locs hΦ a43 hP hD hS => ?_)
        obtain ⟨o43, rfl⟩ := hΦ
        replace a43 := a43.trans a42
        refine top_eq (y := (σ.1 (16 + 8 * i + 1))) (qr_at ok (w := 1) hi (by decide)) ?_
        refine lv_istore (lv' := [(12, .int (σ.1 (16 + 8 * i + 1))), (11, .int (σ.1 (16 + 8 * i + 3))), (10, .int 5), (0, .ref h), (1, .int (nI (mF σ.1))), (2, .int (sX8_minutesLeft σ.1)), (3, .int (σ.1 10)), (4, .int (σ.1 12)), (5, .int (σ.1 2)), (6, .int (TKs σ.1 i)), (7, .int (FTs σ.1 i)), (8, .int 1), (9, .int (nI i))]) X.1 X.2.1 dL_holds_143 hl (by decide) rfl (fun ls hl => ?_)
        refine lv_aload_n X.1 X.2.1 dL_holds_145 rfl (lv_at hl 3 rfl) ?_
        refine lv_iconst (v := 3) X.1 X.2.1 dL_holds_146 (by decide) ?_
        refine lv_iload X.1 X.2.1 dL_holds_147 (lv_at hl 12 rfl) ?_
        refine lv_iconst (v := 2) X.1 X.2.1 dL_holds_149 (by decide) ?_
        refine lv_iconst (v := 0) X.1 X.2.1 dL_holds_150 (by decide) ?_
        refine kG1 (rest := []) (As := [.ref h, .int 3, .int (nI i), .int 2, .int 0]) X hP hD hS hl.1 o43.len (q_room l hst G kk (by omega) o43 (nI i) 2 0 ) sl_L_138 ⟨Nat.le_of_ble_eq_true rfl, Nat.le_of_ble_eq_true rfl, rfl, rfl⟩ ⟨by show _ ≤ 200; omega, by show _ ≤ 1200; omega⟩ rfl (Nat.le_of_ble_eq_true rfl) dL_holds_151 (fun w44 r44 H locs hΦ a44 hP hD hS => ?_)
        obtain ⟨o44, rfl⟩ := hΦ
        replace a44 := a44.trans a43
        refine top_eq (y := (σ.1 (16 + 8 * i + 2))) (qr_at ok (w := 2) hi (by decide)) ?_
        refine lv_istore (lv' := [(13, .int (σ.1 (16 + 8 * i + 2))), (12, .int (σ.1 (16 + 8 * i + 1))), (11, .int (σ.1 (16 + 8 * i + 3))), (10, .int 5), (0, .ref h), (1, .int (nI (mF σ.1))), (2, .int (sX8_minutesLeft σ.1)), (3, .int (σ.1 10)), (4, .int (σ.1 12)), (5, .int (σ.1 2)), (6, .int (TKs σ.1 i)), (7, .int (FTs σ.1 i)), (8, .int 1), (9, .int (nI i))]) X.1 X.2.1 dL_holds_154 hl (by decide) rfl (fun ls hl => ?_)
        refine lv_aload_n X.1 X.2.1 dL_holds_156 rfl (lv_at hl 4 rfl) ?_
        refine lv_iconst (v := 3) X.1 X.2.1 dL_holds_157 (by decide) ?_
        refine lv_iload X.1 X.2.1 dL_holds_158 (lv_at hl 13 rfl) ?_
        refine lv_iconst (v := 5) X.1 X.2.1 dL_holds_160 (by decide) ?_
        refine lv_iconst (v := 0) X.1 X.2.1 dL_holds_161 (by decide) ?_
        refine kG1 (rest := []) (As := [.ref h, .int 3, .int (nI i), .int 5, .int 0]) X hP hD hS hl.1 o44.len (q_room l hst G kk (by omega) o44 (nI i) 5 0 ) sl_L_138 ⟨Nat.le_of_ble_eq_true rfl, Nat.le_of_ble_eq_true rfl, rfl, rfl⟩ ⟨by show _ ≤ 200; omega, by show _ ≤ 1200; omega⟩ rfl (Nat.le_of_ble_eq_true rfl) dL_holds_162 (fun w45 r45 H locs hΦ a45 hP hD hS => ?_)
        obtain ⟨o45, rfl⟩ := hΦ
        replace a45 := a45.trans a44
        refine top_eq (y := (σ.1 (16 + 8 * i + 5))) (qr_at ok (w := 5) hi (by decide)) ?_
        refine lv_istore (lv' := [(14, .int (σ.1 (16 + 8 * i + 5))), (13, .int (σ.1 (16 + 8 * i + 2))), (12, .int (σ.1 (16 + 8 * i + 1))), (11, .int (σ.1 (16 + 8 * i + 3))), (10, .int 5), (0, .ref h), (1, .int (nI (mF σ.1))), (2, .int (sX8_minutesLeft σ.1)), (3, .int (σ.1 10)), (4, .int (σ.1 12)), (5, .int (σ.1 2)), (6, .int (TKs σ.1 i)), (7, .int (FTs σ.1 i)), (8, .int 1), (9, .int (nI i))]) X.1 X.2.1 dL_holds_165 hl (by decide) rfl (fun ls hl => ?_)
        refine lv_aload_n X.1 X.2.1 dL_holds_167 rfl (lv_at hl 5 rfl) ?_
        refine lv_iconst (v := 3) X.1 X.2.1 dL_holds_168 (by decide) ?_
        refine lv_iload X.1 X.2.1 dL_holds_169 (lv_at hl 14 rfl) ?_
        refine lv_bipush (v := 6) X.1 X.2.1 dL_holds_171 (by decide) ?_
        refine lv_iconst (v := 0) X.1 X.2.1 dL_holds_173 (by decide) ?_
        refine kG1 (rest := []) (As := [.ref h, .int 3, .int (nI i), .int 6, .int 0]) X hP hD hS hl.1 o45.len (q_room l hst G kk (by omega) o45 (nI i) 6 0 ) sl_L_138 ⟨Nat.le_of_ble_eq_true rfl, Nat.le_of_ble_eq_true rfl, rfl, rfl⟩ ⟨by show _ ≤ 200; omega, by show _ ≤ 1200; omega⟩ rfl (Nat.le_of_ble_eq_true rfl) dL_holds_174 (fun w46 r46 H locs hΦ a46 hP hD hS => ?_)
        obtain ⟨o46, rfl⟩ := hΦ
        replace a46 := a46.trans a45
        refine top_eq (y := (σ.1 (16 + 8 * i + 6))) (qr_at ok (w := 6) hi (by decide)) ?_
        refine lv_istore (lv' := [(15, .int (σ.1 (16 + 8 * i + 6))), (14, .int (σ.1 (16 + 8 * i + 5))), (13, .int (σ.1 (16 + 8 * i + 2))), (12, .int (σ.1 (16 + 8 * i + 1))), (11, .int (σ.1 (16 + 8 * i + 3))), (10, .int 5), (0, .ref h), (1, .int (nI (mF σ.1))), (2, .int (sX8_minutesLeft σ.1)), (3, .int (σ.1 10)), (4, .int (σ.1 12)), (5, .int (σ.1 2)), (6, .int (TKs σ.1 i)), (7, .int (FTs σ.1 i)), (8, .int 1), (9, .int (nI i))]) X.1 X.2.1 dL_holds_177 hl (by decide) rfl (fun ls hl => ?_)
        refine lv_iload X.1 X.2.1 dL_holds_179 (lv_at hl 5 rfl) ?_
        refine lv_iconst (v := 1) X.1 X.2.1 dL_holds_181 (by decide) ?_
        refine lv_icmp_eq (tgt := 191) X.1 X.2.1 dL_holds_182 (by decide) (fun c_182 => absurd c_182 (by decide)) (fun c_182 => ?_)
        refine lv_iload X.1 X.2.1 dL_holds_185 (lv_at hl 5 rfl) ?_
        refine lv_iconst (v := 3) X.1 X.2.1 dL_holds_187 (by decide) ?_
        refine lv_icmp_ne (tgt := 203) X.1 X.2.1 dL_holds_188 (by decide) (fun c_188 => ?_) (fun c_188 => absurd c_188 (by decide))
        refine lv_iload X.1 X.2.1 dL_holds_203 (lv_at hl 5 rfl) ?_
        refine lv_if_eq (tgt := 220) X.1 X.2.1 dL_holds_205 (by decide) (fun c_205 => absurd c_205 (by decide)) (fun c_205 => ?_)
        refine lv_iload X.1 X.2.1 dL_holds_208 (lv_at hl 5 rfl) ?_
        refine lv_iconst (v := 2) X.1 X.2.1 dL_holds_210 (by decide) ?_
        refine lv_icmp_eq (tgt := 220) X.1 X.2.1 dL_holds_211 (by decide) (fun c_211 => absurd c_211 (by decide)) (fun c_211 => ?_)
        refine lv_iload X.1 X.2.1 dL_holds_214 (lv_at hl 5 rfl) ?_
        refine lv_iconst (v := 5) X.1 X.2.1 dL_holds_216 (by decide) ?_
        refine lv_icmp_ne (tgt := 231) X.1 X.2.1 dL_holds_217 (by decide) (fun c_217 => absurd (by decide) c_217) (fun c_217 => ?_)
        refine lv_aload_n X.1 X.2.1 dL_holds_220 rfl (lv_at hl 6 rfl) ?_
        refine lv_iconst (v := 5) X.1 X.2.1 dL_holds_221 (by decide) ?_
        refine lv_iconst (v := 3) X.1 X.2.1 dL_holds_222 (by decide) ?_
        refine lv_iconst (v := 0) X.1 X.2.1 dL_holds_223 (by decide) ?_
        refine lv_iconst (v := 0) X.1 X.2.1 dL_holds_224 (by decide) ?_
        refine kG1 (rest := []) (As := [.ref h, .int 5, .int 3, .int 0, .int 0]) X hP hD hS hl.1 o46.len (q_setting l hst G kk (by omega) o46 3 0 0 ) sl_L_138 ⟨Nat.le_of_ble_eq_true rfl, Nat.le_of_ble_eq_true rfl, rfl, rfl⟩ ⟨by show _ ≤ 200; omega, by show _ ≤ 1200; omega⟩ rfl (Nat.le_of_ble_eq_true rfl) dL_holds_225 (fun w47 r47 H locs hΦ a47 hP hD hS => ?_)
        obtain ⟨o47, rfl⟩ := hΦ
        replace a47 := a47.trans a46
        refine top_eq (y := (σ.1 13)) (qs_3 σ.1) ?_
        refine lv_goto (tgt := 232) X.1 X.2.1 dL_holds_228 (by decide) ?_
        refine lv_istore (lv' := [(16, .int (σ.1 13)), (15, .int (σ.1 (16 + 8 * i + 6))), (14, .int (σ.1 (16 + 8 * i + 5))), (13, .int (σ.1 (16 + 8 * i + 2))), (12, .int (σ.1 (16 + 8 * i + 1))), (11, .int (σ.1 (16 + 8 * i + 3))), (10, .int 5), (0, .ref h), (1, .int (nI (mF σ.1))), (2, .int (sX8_minutesLeft σ.1)), (3, .int (σ.1 10)), (4, .int (σ.1 12)), (5, .int (σ.1 2)), (6, .int (TKs σ.1 i)), (7, .int (FTs σ.1 i)), (8, .int 1), (9, .int (nI i))]) X.1 X.2.1 dL_holds_232 hl (by decide) rfl (fun ls hl => ?_)
        refine lv_iload X.1 X.2.1 dL_holds_234 (lv_at hl 13 rfl) ?_
        refine lv_iload X.1 X.2.1 dL_holds_236 (lv_at hl 0 rfl) ?_
        refine lv_iadd X.1 X.2.1 dL_holds_238 ?_
        refine top_eq (y := (TKs σ.1 (i + 1))) (by show _ = TKs σ.1 i + LDj σ.1 (JB σ.1 i) i; rw [hd1]; rfl) ?_
        refine lv_istore (lv' := [(6, .int (TKs σ.1 (i + 1))), (16, .int (σ.1 13)), (15, .int (σ.1 (16 + 8 * i + 6))), (14, .int (σ.1 (16 + 8 * i + 5))), (13, .int (σ.1 (16 + 8 * i + 2))), (12, .int (σ.1 (16 + 8 * i + 1))), (11, .int (σ.1 (16 + 8 * i + 3))), (10, .int 5), (0, .ref h), (1, .int (nI (mF σ.1))), (2, .int (sX8_minutesLeft σ.1)), (3, .int (σ.1 10)), (4, .int (σ.1 12)), (5, .int (σ.1 2)), (7, .int (FTs σ.1 i)), (8, .int 1), (9, .int (nI i))]) X.1 X.2.1 dL_holds_239 hl (by decide) rfl (fun ls hl => ?_)
        refine lv_iload X.1 X.2.1 dL_holds_241 (lv_at hl 14 rfl) ?_
        refine lv_iload X.1 X.2.1 dL_holds_243 (lv_at hl 7 rfl) ?_
        refine lv_iconst (v := 3) X.1 X.2.1 dL_holds_245 (by decide) ?_
        refine lv_icmp_eq (tgt := 255) X.1 X.2.1 dL_holds_246 (by decide) (fun c_246 => absurd c_246 (by decide)) (fun c_246 => ?_)
        refine lv_iload X.1 X.2.1 dL_holds_249 (lv_at hl 7 rfl) ?_
        refine lv_iconst (v := 5) X.1 X.2.1 dL_holds_251 (by decide) ?_
        refine lv_icmp_ne (tgt := 259) X.1 X.2.1 dL_holds_252 (by decide) (fun c_252 => absurd (by decide) c_252) (fun c_252 => ?_)
        refine lv_iconst (v := 1) X.1 X.2.1 dL_holds_255 (by decide) ?_
        refine lv_goto (tgt := 260) X.1 X.2.1 dL_holds_256 (by decide) ?_
        refine lv_iadd X.1 X.2.1 dL_holds_260 ?_
        refine top_eq (y := (FTs σ.1 (i + 1))) (by show _ = FTs σ.1 i + (if JB σ.1 i = 3 ∨ JB σ.1 i = 5 then 1 else 0); rw [hd1]; rfl) ?_
        refine lv_istore (lv' := [(7, .int (FTs σ.1 (i + 1))), (6, .int (TKs σ.1 (i + 1))), (16, .int (σ.1 13)), (15, .int (σ.1 (16 + 8 * i + 6))), (14, .int (σ.1 (16 + 8 * i + 5))), (13, .int (σ.1 (16 + 8 * i + 2))), (12, .int (σ.1 (16 + 8 * i + 1))), (11, .int (σ.1 (16 + 8 * i + 3))), (10, .int 5), (0, .ref h), (1, .int (nI (mF σ.1))), (2, .int (sX8_minutesLeft σ.1)), (3, .int (σ.1 10)), (4, .int (σ.1 12)), (5, .int (σ.1 2)), (8, .int 1), (9, .int (nI i))]) X.1 X.2.1 dL_holds_261 hl (by decide) rfl (fun ls hl => ?_)
        refine lv_iload X.1 X.2.1 dL_holds_263 (lv_at hl 6 rfl) ?_
        refine lv_iload X.1 X.2.1 dL_holds_265 (lv_at hl 5 rfl) ?_
        refine lv_icmp_ge (tgt := 485) X.1 X.2.1 dL_holds_267 (by decide) (fun c_267 => absurd c_267 (fa)) (fun c_267 => ?_)
        refine lv_iload X.1 X.2.1 dL_holds_270 (lv_at hl 7 rfl) ?_
        refine lv_sipush (v := (-400)) X.1 X.2.1 dL_holds_272 (by decide) ?_
        refine lv_icmp_lt (tgt := 485) X.1 X.2.1 dL_holds_275 (by decide) (fun c_275 => absurd c_275 (fb)) (fun c_275 => ?_)
        refine lv_iload X.1 X.2.1 dL_holds_278 (lv_at hl 7 rfl) ?_
        refine lv_sipush (v := 400) X.1 X.2.1 dL_holds_280 (by decide) ?_
        refine lv_icmp_gt (tgt := 485) X.1 X.2.1 dL_holds_283 (by decide) (fun c_283 => absurd c_283 (fc)) (fun c_283 => ?_)
        refine lv_iload X.1 X.2.1 dL_holds_286 (lv_at hl 4 rfl) ?_
        refine lv_if_lt (tgt := 485) X.1 X.2.1 dL_holds_288 (by decide) (fun c_288 => absurd c_288 (fd)) (fun c_288 => ?_)
        refine lv_iload X.1 X.2.1 dL_holds_291 (lv_at hl 4 rfl) ?_
        refine lv_bipush (v := 100) X.1 X.2.1 dL_holds_293 (by decide) ?_
        refine lv_icmp_gt (tgt := 485) X.1 X.2.1 dL_holds_295 (by decide) (fun c_295 => absurd c_295 (fe)) (fun c_295 => ?_)
        refine lv_iload X.1 X.2.1 dL_holds_298 (lv_at hl 3 rfl) ?_
        refine lv_if_lt (tgt := 485) X.1 X.2.1 dL_holds_300 (by decide) (fun c_300 => absurd c_300 (ff)) (fun c_300 => ?_)
        refine lv_iload X.1 X.2.1 dL_holds_303 (lv_at hl 8 rfl) ?_
        refine lv_if_ne (tgt := 312) X.1 X.2.1 dL_holds_305 (by decide) (fun c_305 => ?_) (fun c_305 => absurd c_305 (by decide))
        refine lv_iconst (v := 0) X.1 X.2.1 dL_holds_312 (by decide) ?_
        refine lv_iload X.1 X.2.1 dL_holds_313 (lv_at hl 3 rfl) ?_
        refine lv_if_le (tgt := 322) X.1 X.2.1 dL_holds_315 (by decide) (fun c_315 => ?_) (fun c_315 => absurd ((by rw [g1]; exact Int32.le_refl 0)) c_315)
        refine lv_iconst (v := 0) X.1 X.2.1 dL_holds_322 (by decide) ?_
        refine lv_icmp_ne (tgt := 485) X.1 X.2.1 dL_holds_323 (by decide) (fun c_323 => absurd (by decide) c_323) (fun c_323 => ?_)
        refine lv_iload X.1 X.2.1 dL_holds_326 (lv_at hl 8 rfl) ?_
        refine lv_iconst (v := 1) X.1 X.2.1 dL_holds_328 (by decide) ?_
        refine lv_icmp_ne (tgt := 336) X.1 X.2.1 dL_holds_329 (by decide) (fun c_329 => ?_) (fun c_329 => absurd c_329 (by decide))
        refine lv_iconst (v := 0) X.1 X.2.1 dL_holds_336 (by decide) ?_
        refine lv_iload X.1 X.2.1 dL_holds_337 (lv_at hl 3 rfl) ?_
        refine lv_if_ne (tgt := 353) X.1 X.2.1 dL_holds_339 (by decide) (fun c_339 => absurd (g1) c_339) (fun c_339 => ?_)
        refine lv_iload X.1 X.2.1 dL_holds_342 (lv_at hl 7 rfl) ?_
        refine lv_iload X.1 X.2.1 dL_holds_344 (lv_at hl 5 rfl) ?_
        refine lv_icmp_lt (tgt := 353) X.1 X.2.1 dL_holds_346 (by decide) (fun c_346 => ?_) (fun c_346 => absurd (g3) c_346)
        refine lv_iconst (v := 0) X.1 X.2.1 dL_holds_353 (by decide) ?_
        refine lv_icmp_ne (tgt := 485) X.1 X.2.1 dL_holds_354 (by decide) (fun c_354 => absurd (by decide) c_354) (fun c_354 => ?_)
        refine lv_iload X.1 X.2.1 dL_holds_357 (lv_at hl 8 rfl) ?_
        refine lv_iconst (v := 2) X.1 X.2.1 dL_holds_359 (by decide) ?_
        refine lv_icmp_ne (tgt := 367) X.1 X.2.1 dL_holds_360 (by decide) (fun c_360 => ?_) (fun c_360 => absurd c_360 (by decide))
        refine lv_iconst (v := 0) X.1 X.2.1 dL_holds_367 (by decide) ?_
        refine lv_iload X.1 X.2.1 dL_holds_368 (lv_at hl 3 rfl) ?_
        refine lv_if_ne (tgt := 391) X.1 X.2.1 dL_holds_370 (by decide) (fun c_370 => absurd (g1) c_370) (fun c_370 => ?_)
        refine lv_iload X.1 X.2.1 dL_holds_373 (lv_at hl 7 rfl) ?_
        refine lv_iload X.1 X.2.1 dL_holds_375 (lv_at hl 5 rfl) ?_
        refine lv_icmp_ge (tgt := 391) X.1 X.2.1 dL_holds_377 (by decide) (fun c_377 => absurd c_377 (Int32.not_le.mpr g3)) (fun c_377 => ?_)
        refine lv_iload X.1 X.2.1 dL_holds_380 (lv_at hl 4 rfl) ?_
        refine lv_bipush (v := 100) X.1 X.2.1 dL_holds_382 (by decide) ?_
        refine lv_icmp_ne (tgt := 391) X.1 X.2.1 dL_holds_384 (by decide) (fun c_384 => ?_) (fun c_384 => absurd c_384 (g4))
        refine lv_iconst (v := 0) X.1 X.2.1 dL_holds_391 (by decide) ?_
        refine lv_icmp_ne (tgt := 485) X.1 X.2.1 dL_holds_392 (by decide) (fun c_392 => absurd (by decide) c_392) (fun c_392 => ?_)
        refine lv_iload X.1 X.2.1 dL_holds_395 (lv_at hl 8 rfl) ?_
        refine lv_iconst (v := 3) X.1 X.2.1 dL_holds_397 (by decide) ?_
        refine lv_icmp_eq (tgt := 407) X.1 X.2.1 dL_holds_398 (by decide) (fun c_398 => absurd c_398 (by decide)) (fun c_398 => ?_)
        refine lv_iload X.1 X.2.1 dL_holds_401 (lv_at hl 8 rfl) ?_
        refine lv_iconst (v := 4) X.1 X.2.1 dL_holds_403 (by decide) ?_
        refine lv_icmp_ne (tgt := 421) X.1 X.2.1 dL_holds_404 (by decide) (fun c_404 => ?_) (fun c_404 => absurd c_404 (by decide))
        refine lv_iload X.1 X.2.1 dL_holds_421 (lv_at hl 8 rfl) ?_
        refine lv_iconst (v := 5) X.1 X.2.1 dL_holds_423 (by decide) ?_
        refine lv_icmp_eq (tgt := 434) X.1 X.2.1 dL_holds_424 (by decide) (fun c_424 => ?_) (fun c_424 => absurd (by decide) c_424)
        refine lv_iload X.1 X.2.1 dL_holds_434 (lv_at hl 7 rfl) ?_
        refine lv_iload X.1 X.2.1 dL_holds_436 (lv_at hl 6 rfl) ?_
        refine lv_icmp_gt (tgt := 485) X.1 X.2.1 dL_holds_438 (by decide) (fun c_438 => absurd c_438 (Int32.not_lt.mpr g5)) (fun c_438 => ?_)
        refine lv_iload X.1 X.2.1 dL_holds_441 (lv_at hl 4 rfl) ?_
        refine lv_aload_n X.1 X.2.1 dL_holds_443 rfl (lv_at hl 9 rfl) ?_
        refine lv_iconst (v := 5) X.1 X.2.1 dL_holds_444 (by decide) ?_
        refine lv_iconst (v := 4) X.1 X.2.1 dL_holds_445 (by decide) ?_
        refine lv_iconst (v := 0) X.1 X.2.1 dL_holds_446 (by decide) ?_
        refine lv_iconst (v := 0) X.1 X.2.1 dL_holds_447 (by decide) ?_
        refine kG1 (rest := [.int (σ.1 (16 + 8 * i + 5))]) (As := [.ref h, .int 5, .int 4, .int 0, .int 0]) X hP hD hS hl.1 o47.len (q_setting l hst G kk (by omega) o47 4 0 0 ) sl_L_138 ⟨Nat.le_of_ble_eq_true rfl, Nat.le_of_ble_eq_true rfl, rfl, rfl⟩ ⟨by show _ ≤ 200; omega, by show _ ≤ 1200; omega⟩ rfl (Nat.le_of_ble_eq_true rfl) dL_holds_448 (fun w48 r48 H locs hΦ a48 hP hD hS => ?_)
        obtain ⟨o48, rfl⟩ := hΦ
        replace a48 := a48.trans a47
        refine top_eq (y := (σ.1 14)) (qs_4 σ.1) ?_
        refine lv_icmp_lt (tgt := 485) X.1 X.2.1 dL_holds_451 (by decide) (fun c_451 => absurd c_451 (g6)) (fun c_451 => ?_)
        refine lv_iload X.1 X.2.1 dL_holds_454 (lv_at hl 8 rfl) ?_
        refine lv_bipush (v := 7) X.1 X.2.1 dL_holds_456 (by decide) ?_
        refine lv_icmp_ne (tgt := 481) X.1 X.2.1 dL_holds_458 (by decide) (fun c_458 => ?_) (fun c_458 => absurd c_458 (by decide))
        refine lv_iconst (v := 1) X.1 X.2.1 dL_holds_481 (by decide) ?_
        refine lv_goto (tgt := 486) X.1 X.2.1 dL_holds_482 (by decide) ?_
        refine lv_istore (lv' := [(8, .int 1), (7, .int (FTs σ.1 (i + 1))), (6, .int (TKs σ.1 (i + 1))), (16, .int (σ.1 13)), (15, .int (σ.1 (16 + 8 * i + 6))), (14, .int (σ.1 (16 + 8 * i + 5))), (13, .int (σ.1 (16 + 8 * i + 2))), (12, .int (σ.1 (16 + 8 * i + 1))), (11, .int (σ.1 (16 + 8 * i + 3))), (10, .int 5), (0, .ref h), (1, .int (nI (mF σ.1))), (2, .int (sX8_minutesLeft σ.1)), (3, .int (σ.1 10)), (4, .int (σ.1 12)), (5, .int (σ.1 2)), (9, .int (nI i))]) X.1 X.2.1 dL_holds_486 hl (by decide) rfl (fun ls hl => ?_)
        refine lv_iinc (v := (nI (i + 1))) (lv' := [(9, .int (nI (i + 1))), (8, .int 1), (7, .int (FTs σ.1 (i + 1))), (6, .int (TKs σ.1 (i + 1))), (16, .int (σ.1 13)), (15, .int (σ.1 (16 + 8 * i + 6))), (14, .int (σ.1 (16 + 8 * i + 5))), (13, .int (σ.1 (16 + 8 * i + 2))), (12, .int (σ.1 (16 + 8 * i + 1))), (11, .int (σ.1 (16 + 8 * i + 3))), (10, .int 5), (0, .ref h), (1, .int (nI (mF σ.1))), (2, .int (sX8_minutesLeft σ.1)), (3, .int (σ.1 10)), (4, .int (σ.1 12)), (5, .int (σ.1 2))]) X.1 X.2.1 dL_holds_488 hl (k := 16) rfl (nI_add i 1) (by decide) rfl (fun ls hl => ?_)
        refine lv_goto (tgt := 101) X.1 X.2.1 dL_holds_491 (by decide) ?_
        refine W.widen (k := 20 + 20 * (i + 1)) (n := 120 + 120 * (i + 1)) (by omega) (by omega) ?_
        exact ih (i + 1) _ o48 a48  _ _ ls hP hD hS (lv_sub hl [11, 12, 13, 14, 15, 16, 3, 2, 1, 0] rfl) (by omega)
      · skip
        refine kG1 (rest := []) (As := [.ref h, .int 4, .int (nI i), .int 0, .int 0]) X hP hD hS hl.1 o4.len (q_does l hst G kk (by omega) o4 (nI i) 0 0 ) sl_L_138 ⟨Nat.le_of_ble_eq_true rfl, Nat.le_of_ble_eq_true rfl, rfl, rfl⟩ ⟨by show _ ≤ 200; omega, by show _ ≤ 1200; omega⟩ rfl (Nat.le_of_ble_eq_true rfl) dL_holds_118 (fun w49 r49 H locs hΦ a49 hP hD hS => ?_)
        obtain ⟨o49, rfl⟩ := hΦ
        replace a49 := a49.trans a4
        refine top_eq (y := 6) ((qd_at ok hi).trans hd1) ?_
        refine lv_istore (lv' := [(10, .int 6), (0, .ref h), (1, .int (nI (mF σ.1))), (2, .int (sX8_minutesLeft σ.1)), (3, .int (σ.1 10)), (4, .int (σ.1 12)), (5, .int (σ.1 2)), (6, .int (TKs σ.1 i)), (7, .int (FTs σ.1 i)), (8, .int 1), (9, .int (nI i))]) X.1 X.2.1 dL_holds_121 hl (by decide) rfl (fun ls hl => ?_)
        refine lv_aload_n X.1 X.2.1 dL_holds_123 rfl (lv_at hl 1 rfl) ?_
        refine lv_iconst (v := 3) X.1 X.2.1 dL_holds_124 (by decide) ?_
        refine lv_iload X.1 X.2.1 dL_holds_125 (lv_at hl 10 rfl) ?_
        refine lv_iconst (v := 3) X.1 X.2.1 dL_holds_127 (by decide) ?_
        refine lv_iconst (v := 0) X.1 X.2.1 dL_holds_128 (by decide) ?_
        refine kG1 (rest := []) (As := [.ref h, .int 3, .int (nI i), .int 3, .int 0]) X hP hD hS hl.1 o49.len (q_room l hst G kk (by omega) o49 (nI i) 3 0 ) sl_L_138 ⟨Nat.le_of_ble_eq_true rfl, Nat.le_of_ble_eq_true rfl, rfl, rfl⟩ ⟨by show _ ≤ 200; omega, by show _ ≤ 1200; omega⟩ rfl (Nat.le_of_ble_eq_true rfl) dL_holds_129 (fun w50 r50 H locs hΦ a50 hP hD hS => ?_)
        obtain ⟨o50, rfl⟩ := hΦ
        replace a50 := a50.trans a49
        refine top_eq (y := (σ.1 (16 + 8 * i + 3))) (qr_at ok (w := 3) hi (by decide)) ?_
        refine lv_istore (lv' := [(11, .int (σ.1 (16 + 8 * i + 3))), (10, .int 6), (0, .ref h), (1, .int (nI (mF σ.1))), (2, .int (sX8_minutesLeft σ.1)), (3, .int (σ.1 10)), (4, .int (σ.1 12)), (5, .int (σ.1 2)), (6, .int (TKs σ.1 i)), (7, .int (FTs σ.1 i)), (8, .int 1), (9, .int (nI i))]) X.1 X.2.1 dL_holds_132 hl (by decide) rfl (fun ls hl => ?_)
        refine lv_aload_n X.1 X.2.1 dL_holds_134 rfl (lv_at hl 2 rfl) ?_
        refine lv_iconst (v := 3) X.1 X.2.1 dL_holds_135 (by decide) ?_
        refine lv_iload X.1 X.2.1 dL_holds_136 (lv_at hl 11 rfl) ?_
        refine lv_iconst (v := 1) X.1 X.2.1 dL_holds_138 (by decide) ?_
        refine lv_iconst (v := 0) X.1 X.2.1 dL_holds_139 (by decide) ?_
        refine kG1 (rest := []) (As := [.ref h, .int 3, .int (nI i), .int 1, .int 0]) X hP hD hS hl.1 o50.len (q_room l hst G kk (by omega) o50 (nI i) 1 0 ) sl_L_138 ⟨Nat.le_of_ble_eq_true rfl, Nat.le_of_ble_eq_true rfl, rfl, rfl⟩ ⟨by show _ ≤ 200; omega, by show _ ≤ 1200; omega⟩ rfl (Nat.le_of_ble_eq_true rfl) dL_holds_140 (fun w51 r51 H locs hΦ a51 hP hD hS => ?_)
        obtain ⟨o51, rfl⟩ := hΦ
        replace a51 := a51.trans a50
        refine top_eq (y := (σ.1 (16 + 8 * i + 1))) (qr_at ok (w := 1) hi (by decide)) ?_
        refine lv_istore (lv' := [(12, .int (σ.1 (16 + 8 * i + 1))), (11, .int (σ.1 (16 + 8 * i + 3))), (10, .int 6), (0, .ref h), (1, .int (nI (mF σ.1))), (2, .int (sX8_minutesLeft σ.1)), (3, .int (σ.1 10)), (4, .int (σ.1 12)), (5, .int (σ.1 2)), (6, .int (TKs σ.1 i)), (7, .int (FTs σ.1 i)), (8, .int 1), (9, .int (nI i))]) X.1 X.2.1 dL_holds_143 hl (by decide) rfl (fun ls hl => ?_)
        refine lv_aload_n X.1 X.2.1 dL_holds_145 rfl (lv_at hl 3 rfl) ?_
        refine lv_iconst (v := 3) X.1 X.2.1 dL_holds_146 (by decide) ?_
        refine lv_iload X.1 X.2.1 dL_holds_147 (lv_at hl 12 rfl) ?_
        refine lv_iconst (v := 2) X.1 X.2.1 dL_holds_149 (by decide) ?_
        refine lv_iconst (v := 0) X.1 X.2.1 dL_holds_150 (by decide) ?_
        refine kG1 (rest := []) (As := [.ref h, .int 3, .int (nI i), .int 2, .int 0]) X hP hD hS hl.1 o51.len (q_room l hst G kk (by omega) o51 (nI i) 2 0 ) sl_L_138 ⟨Nat.le_of_ble_eq_true rfl, Nat.le_of_ble_eq_true rfl, rfl, rfl⟩ ⟨by show _ ≤ 200; omega, by show _ ≤ 1200; omega⟩ rfl (Nat.le_of_ble_eq_true rfl) dL_holds_151 (fun w52 r52 H locs hΦ a52 hP hD hS => ?_)
        obtain ⟨o52, rfl⟩ := hΦ
        replace a52 := a52.trans a51
        refine top_eq (y := (σ.1 (16 + 8 * i + 2))) (qr_at ok (w := 2) hi (by decide)) ?_
        refine lv_istore (lv' := [(13, .int (σ.1 (16 + 8 * i + 2))), (12, .int (σ.1 (16 + 8 * i + 1))), (11, .int (σ.1 (16 + 8 * i + 3))), (10, .int 6), (0, .ref h), (1, .int (nI (mF σ.1))), (2, .int (sX8_minutesLeft σ.1)), (3, .int (σ.1 10)), (4, .int (σ.1 12)), (5, .int (σ.1 2)), (6, .int (TKs σ.1 i)), (7, .int (FTs σ.1 i)), (8, .int 1), (9, .int (nI i))]) X.1 X.2.1 dL_holds_154 hl (by decide) rfl (fun ls hl => ?_)
        refine lv_aload_n X.1 X.2.1 dL_holds_156 rfl (lv_at hl 4 rfl) ?_
        refine lv_iconst (v := 3) X.1 X.2.1 dL_holds_157 (by decide) ?_
        refine lv_iload X.1 X.2.1 dL_holds_158 (lv_at hl 13 rfl) ?_
        refine lv_iconst (v := 5) X.1 X.2.1 dL_holds_160 (by decide) ?_
        refine lv_iconst (v := 0) X.1 X.2.1 dL_holds_161 (by decide) ?_
        refine kG1 (rest := []) (As := [.ref h, .int 3, .int (nI i), .int 5, .int 0]) X hP hD hS hl.1 o52.len (q_room l hst G kk (by omega) o52 (nI i) 5 0 ) sl_L_138 ⟨Nat.le_of_ble_eq_true rfl, Nat.le_of_ble_eq_true rfl, rfl, rfl⟩ ⟨by show _ ≤ 200; omega, by show _ ≤ 1200; omega⟩ rfl (Nat.le_of_ble_eq_true rfl) dL_holds_162 (fun w53 r53 H locs hΦ a53 hP hD hS => ?_)
        obtain ⟨o53, rfl⟩ := hΦ
        replace a53 := a53.trans a52
        refine top_eq (y := (σ.1 (16 + 8 * i + 5))) (qr_at ok (w := 5) hi (by decide)) ?_
        refine lv_istore (lv' := [(14, .int (σ.1 (16 + 8 * i + 5))), (13, .int (σ.1 (16 + 8 * i + 2))), (12, .int (σ.1 (16 + 8 * i + 1))), (11, .int (σ.1 (16 + 8 * i + 3))), (10, .int 6), (0, .ref h), (1, .int (nI (mF σ.1))), (2, .int (sX8_minutesLeft σ.1)), (3, .int (σ.1 10)), (4, .int (σ.1 12)), (5, .int (σ.1 2)), (6, .int (TKs σ.1 i)), (7, .int (FTs σ.1 i)), (8, .int 1), (9, .int (nI i))]) X.1 X.2.1 dL_holds_165 hl (by decide) rfl (fun ls hl => ?_)
        refine lv_aload_n X.1 X.2.1 dL_holds_167 rfl (lv_at hl 5 rfl) ?_
        refine lv_iconst (v := 3) X.1 X.2.1 dL_holds_168 (by decide) ?_
        refine lv_iload X.1 X.2.1 dL_holds_169 (lv_at hl 14 rfl) ?_
        refine lv_bipush (v := 6) X.1 X.2.1 dL_holds_171 (by decide) ?_
        refine lv_iconst (v := 0) X.1 X.2.1 dL_holds_173 (by decide) ?_
        refine kG1 (rest := []) (As := [.ref h, .int 3, .int (nI i), .int 6, .int 0]) X hP hD hS hl.1 o53.len (q_room l hst G kk (by omega) o53 (nI i) 6 0 ) sl_L_138 ⟨Nat.le_of_ble_eq_true rfl, Nat.le_of_ble_eq_true rfl, rfl, rfl⟩ ⟨by show _ ≤ 200; omega, by show _ ≤ 1200; omega⟩ rfl (Nat.le_of_ble_eq_true rfl) dL_holds_174 (fun w54 r54 H locs hΦ a54 hP hD hS => ?_)
        obtain ⟨o54, rfl⟩ := hΦ
        replace a54 := a54.trans a53
        refine top_eq (y := (σ.1 (16 + 8 * i + 6))) (qr_at ok (w := 6) hi (by decide)) ?_
        refine lv_istore (lv' := [(15, .int (σ.1 (16 + 8 * i + 6))), (14, .int (σ.1 (16 + 8 * i + 5))), (13, .int (σ.1 (16 + 8 * i + 2))), (12, .int (σ.1 (16 + 8 * i + 1))), (11, .int (σ.1 (16 + 8 * i + 3))), (10, .int 6), (0, .ref h), (1, .int (nI (mF σ.1))), (2, .int (sX8_minutesLeft σ.1)), (3, .int (σ.1 10)), (4, .int (σ.1 12)), (5, .int (σ.1 2)), (6, .int (TKs σ.1 i)), (7, .int (FTs σ.1 i)), (8, .int 1), (9, .int (nI i))]) X.1 X.2.1 dL_holds_177 hl (by decide) rfl (fun ls hl => ?_)
        refine lv_iload X.1 X.2.1 dL_holds_179 (lv_at hl 5 rfl) ?_
        refine lv_iconst (v := 1) X.1 X.2.1 dL_holds_181 (by decide) ?_
        refine lv_icmp_eq (tgt := 191) X.1 X.2.1 dL_holds_182 (by decide) (fun c_182 => absurd c_182 (by decide)) (fun c_182 => ?_)
        refine lv_iload X.1 X.2.1 dL_holds_185 (lv_at hl 5 rfl) ?_
        refine lv_iconst (v := 3) X.1 X.2.1 dL_holds_187 (by decide) ?_
        refine lv_icmp_ne (tgt := 203) X.1 X.2.1 dL_holds_188 (by decide) (fun c_188 => ?_) (fun c_188 => absurd c_188 (by decide))
        refine lv_iload X.1 X.2.1 dL_holds_203 (lv_at hl 5 rfl) ?_
        refine lv_if_eq (tgt := 220) X.1 X.2.1 dL_holds_205 (by decide) (fun c_205 => absurd c_205 (by decide)) (fun c_205 => ?_)
        refine lv_iload X.1 X.2.1 dL_holds_208 (lv_at hl 5 rfl) ?_
        refine lv_iconst (v := 2) X.1 X.2.1 dL_holds_210 (by decide) ?_
        refine lv_icmp_eq (tgt := 220) X.1 X.2.1 dL_holds_211 (by decide) (fun c_211 => absurd c_211 (by decide)) (fun c_211 => ?_)
        refine lv_iload X.1 X.2.1 dL_holds_214 (lv_at hl 5 rfl) ?_
        refine lv_iconst (v := 5) X.1 X.2.1 dL_holds_216 (by decide) ?_
        refine lv_icmp_ne (tgt := 231) X.1 X.2.1 dL_holds_217 (by decide) (fun c_217 => ?_) (fun c_217 => absurd c_217 (by decide))
        refine lv_iconst (v := 0) X.1 X.2.1 dL_holds_231 (by decide) ?_
        refine lv_istore (lv' := [(16, .int 0), (15, .int (σ.1 (16 + 8 * i + 6))), (14, .int (σ.1 (16 + 8 * i + 5))), (13, .int (σ.1 (16 + 8 * i + 2))), (12, .int (σ.1 (16 + 8 * i + 1))), (11, .int (σ.1 (16 + 8 * i + 3))), (10, .int 6), (0, .ref h), (1, .int (nI (mF σ.1))), (2, .int (sX8_minutesLeft σ.1)), (3, .int (σ.1 10)), (4, .int (σ.1 12)), (5, .int (σ.1 2)), (6, .int (TKs σ.1 i)), (7, .int (FTs σ.1 i)), (8, .int 1), (9, .int (nI i))]) X.1 X.2.1 dL_holds_232 hl (by decide) rfl (fun ls hl => ?_)
        refine lv_iload X.1 X.2.1 dL_holds_234 (lv_at hl 13 rfl) ?_
        refine lv_iload X.1 X.2.1 dL_holds_236 (lv_at hl 0 rfl) ?_
        refine lv_iadd X.1 X.2.1 dL_holds_238 ?_
        refine top_eq (y := (TKs σ.1 (i + 1))) (by show _ = TKs σ.1 i + LDj σ.1 (JB σ.1 i) i; rw [hd1]; rfl) ?_
        refine lv_istore (lv' := [(6, .int (TKs σ.1 (i + 1))), (16, .int 0), (15, .int (σ.1 (16 + 8 * i + 6))), (14, .int (σ.1 (16 + 8 * i + 5))), (13, .int (σ.1 (16 + 8 * i + 2))), (12, .int (σ.1 (16 + 8 * i + 1))), (11, .int (σ.1 (16 + 8 * i + 3))), (10, .int 6), (0, .ref h), (1, .int (nI (mF σ.1))), (2, .int (sX8_minutesLeft σ.1)), (3, .int (σ.1 10)), (4, .int (σ.1 12)), (5, .int (σ.1 2)), (7, .int (FTs σ.1 i)), (8, .int 1), (9, .int (nI i))]) X.1 X.2.1 dL_holds_239 hl (by decide) rfl (fun ls hl => ?_)
        refine lv_iload X.1 X.2.1 dL_holds_241 (lv_at hl 14 rfl) ?_
        refine lv_iload X.1 X.2.1 dL_holds_243 (lv_at hl 7 rfl) ?_
        refine lv_iconst (v := 3) X.1 X.2.1 dL_holds_245 (by decide) ?_
        refine lv_icmp_eq (tgt := 255) X.1 X.2.1 dL_holds_246 (by decide) (fun c_246 => absurd c_246 (by decide)) (fun c_246 => ?_)
        refine lv_iload X.1 X.2.1 dL_holds_249 (lv_at hl 7 rfl) ?_
        refine lv_iconst (v := 5) X.1 X.2.1 dL_holds_251 (by decide) ?_
        refine lv_icmp_ne (tgt := 259) X.1 X.2.1 dL_holds_252 (by decide) (fun c_252 => ?_) (fun c_252 => absurd c_252 (by decide))
        refine lv_iconst (v := 0) X.1 X.2.1 dL_holds_259 (by decide) ?_
        refine lv_iadd X.1 X.2.1 dL_holds_260 ?_
        refine top_eq (y := (FTs σ.1 (i + 1))) (by show _ = FTs σ.1 i + (if JB σ.1 i = 3 ∨ JB σ.1 i = 5 then 1 else 0); rw [hd1]; rfl) ?_
        refine lv_istore (lv' := [(7, .int (FTs σ.1 (i + 1))), (6, .int (TKs σ.1 (i + 1))), (16, .int 0), (15, .int (σ.1 (16 + 8 * i + 6))), (14, .int (σ.1 (16 + 8 * i + 5))), (13, .int (σ.1 (16 + 8 * i + 2))), (12, .int (σ.1 (16 + 8 * i + 1))), (11, .int (σ.1 (16 + 8 * i + 3))), (10, .int 6), (0, .ref h), (1, .int (nI (mF σ.1))), (2, .int (sX8_minutesLeft σ.1)), (3, .int (σ.1 10)), (4, .int (σ.1 12)), (5, .int (σ.1 2)), (8, .int 1), (9, .int (nI i))]) X.1 X.2.1 dL_holds_261 hl (by decide) rfl (fun ls hl => ?_)
        refine lv_iload X.1 X.2.1 dL_holds_263 (lv_at hl 6 rfl) ?_
        refine lv_iload X.1 X.2.1 dL_holds_265 (lv_at hl 5 rfl) ?_
        refine lv_icmp_ge (tgt := 485) X.1 X.2.1 dL_holds_267 (by decide) (fun c_267 => absurd c_267 (fa)) (fun c_267 => ?_)
        refine lv_iload X.1 X.2.1 dL_holds_270 (lv_at hl 7 rfl) ?_
        refine lv_sipush (v := (-400)) X.1 X.2.1 dL_holds_272 (by decide) ?_
        refine lv_icmp_lt (tgt := 485) X.1 X.2.1 dL_holds_275 (by decide) (fun c_275 => absurd c_275 (fb)) (fun c_275 => ?_)
        refine lv_iload X.1 X.2.1 dL_holds_278 (lv_at hl 7 rfl) ?_
        refine lv_sipush (v := 400) X.1 X.2.1 dL_holds_280 (by decide) ?_
        refine lv_icmp_gt (tgt := 485) X.1 X.2.1 dL_holds_283 (by decide) (fun c_283 => absurd c_283 (fc)) (fun c_283 => ?_)
        refine lv_iload X.1 X.2.1 dL_holds_286 (lv_at hl 4 rfl) ?_
        refine lv_if_lt (tgt := 485) X.1 X.2.1 dL_holds_288 (by decide) (fun c_288 => absurd c_288 (fd)) (fun c_288 => ?_)
        refine lv_iload X.1 X.2.1 dL_holds_291 (lv_at hl 4 rfl) ?_
        refine lv_bipush (v := 100) X.1 X.2.1 dL_holds_293 (by decide) ?_
        refine lv_icmp_gt (tgt := 485) X.1 X.2.1 dL_holds_295 (by decide) (fun c_295 => absurd c_295 (fe)) (fun c_295 => ?_)
        refine lv_iload X.1 X.2.1 dL_holds_298 (lv_at hl 3 rfl) ?_
        refine lv_if_lt (tgt := 485) X.1 X.2.1 dL_holds_300 (by decide) (fun c_300 => absurd c_300 (ff)) (fun c_300 => ?_)
        refine lv_iload X.1 X.2.1 dL_holds_303 (lv_at hl 8 rfl) ?_
        refine lv_if_ne (tgt := 312) X.1 X.2.1 dL_holds_305 (by decide) (fun c_305 => ?_) (fun c_305 => absurd c_305 (by decide))
        refine lv_iconst (v := 0) X.1 X.2.1 dL_holds_312 (by decide) ?_
        refine lv_iload X.1 X.2.1 dL_holds_313 (lv_at hl 3 rfl) ?_
        refine lv_if_le (tgt := 322) X.1 X.2.1 dL_holds_315 (by decide) (fun c_315 => ?_) (fun c_315 => absurd ((by rw [g1]; exact Int32.le_refl 0)) c_315)
        refine lv_iconst (v := 0) X.1 X.2.1 dL_holds_322 (by decide) ?_
        refine lv_icmp_ne (tgt := 485) X.1 X.2.1 dL_holds_323 (by decide) (fun c_323 => absurd (by decide) c_323) (fun c_323 => ?_)
        refine lv_iload X.1 X.2.1 dL_holds_326 (lv_at hl 8 rfl) ?_
        refine lv_iconst (v := 1) X.1 X.2.1 dL_holds_328 (by decide) ?_
        refine lv_icmp_ne (tgt := 336) X.1 X.2.1 dL_holds_329 (by decide) (fun c_329 => ?_) (fun c_329 => absurd c_329 (by decide))
        refine lv_iconst (v := 0) X.1 X.2.1 dL_holds_336 (by decide) ?_
        refine lv_iload X.1 X.2.1 dL_holds_337 (lv_at hl 3 rfl) ?_
        refine lv_if_ne (tgt := 353) X.1 X.2.1 dL_holds_339 (by decide) (fun c_339 => absurd (g1) c_339) (fun c_339 => ?_)
        refine lv_iload X.1 X.2.1 dL_holds_342 (lv_at hl 7 rfl) ?_
        refine lv_iload X.1 X.2.1 dL_holds_344 (lv_at hl 5 rfl) ?_
        refine lv_icmp_lt (tgt := 353) X.1 X.2.1 dL_holds_346 (by decide) (fun c_346 => ?_) (fun c_346 => absurd (g3) c_346)
        refine lv_iconst (v := 0) X.1 X.2.1 dL_holds_353 (by decide) ?_
        refine lv_icmp_ne (tgt := 485) X.1 X.2.1 dL_holds_354 (by decide) (fun c_354 => absurd (by decide) c_354) (fun c_354 => ?_)
        refine lv_iload X.1 X.2.1 dL_holds_357 (lv_at hl 8 rfl) ?_
        refine lv_iconst (v := 2) X.1 X.2.1 dL_holds_359 (by decide) ?_
        refine lv_icmp_ne (tgt := 367) X.1 X.2.1 dL_holds_360 (by decide) (fun c_360 => ?_) (fun c_360 => absurd c_360 (by decide))
        refine lv_iconst (v := 0) X.1 X.2.1 dL_holds_367 (by decide) ?_
        refine lv_iload X.1 X.2.1 dL_holds_368 (lv_at hl 3 rfl) ?_
        refine lv_if_ne (tgt := 391) X.1 X.2.1 dL_holds_370 (by decide) (fun c_370 => absurd (g1) c_370) (fun c_370 => ?_)
        refine lv_iload X.1 X.2.1 dL_holds_373 (lv_at hl 7 rfl) ?_
        refine lv_iload X.1 X.2.1 dL_holds_375 (lv_at hl 5 rfl) ?_
        refine lv_icmp_ge (tgt := 391) X.1 X.2.1 dL_holds_377 (by decide) (fun c_377 => absurd c_377 (Int32.not_le.mpr g3)) (fun c_377 => ?_)
        refine lv_iload X.1 X.2.1 dL_holds_380 (lv_at hl 4 rfl) ?_
        refine lv_bipush (v := 100) X.1 X.2.1 dL_holds_382 (by decide) ?_
        refine lv_icmp_ne (tgt := 391) X.1 X.2.1 dL_holds_384 (by decide) (fun c_384 => ?_) (fun c_384 => absurd c_384 (g4))
        refine lv_iconst (v := 0) X.1 X.2.1 dL_holds_391 (by decide) ?_
        refine lv_icmp_ne (tgt := 485) X.1 X.2.1 dL_holds_392 (by decide) (fun c_392 => absurd (by decide) c_392) (fun c_392 => ?_)
        refine lv_iload X.1 X.2.1 dL_holds_395 (lv_at hl 8 rfl) ?_
        refine lv_iconst (v := 3) X.1 X.2.1 dL_holds_397 (by decide) ?_
        refine lv_icmp_eq (tgt := 407) X.1 X.2.1 dL_holds_398 (by decide) (fun c_398 => absurd c_398 (by decide)) (fun c_398 => ?_)
        refine lv_iload X.1 X.2.1 dL_holds_401 (lv_at hl 8 rfl) ?_
        refine lv_iconst (v := 4) X.1 X.2.1 dL_holds_403 (by decide) ?_
        refine lv_icmp_ne (tgt := 421) X.1 X.2.1 dL_holds_404 (by decide) (fun c_404 => ?_) (fun c_404 => absurd c_404 (by decide))
        refine lv_iload X.1 X.2.1 dL_holds_421 (lv_at hl 8 rfl) ?_
        refine lv_iconst (v := 5) X.1 X.2.1 dL_holds_423 (by decide) ?_
        refine lv_icmp_eq (tgt := 434) X.1 X.2.1 dL_holds_424 (by decide) (fun c_424 => absurd c_424 (by decide)) (fun c_424 => ?_)
        refine lv_iload X.1 X.2.1 dL_holds_427 (lv_at hl 8 rfl) ?_
        refine lv_bipush (v := 6) X.1 X.2.1 dL_holds_429 (by decide) ?_
        refine lv_icmp_ne (tgt := 454) X.1 X.2.1 dL_holds_431 (by decide) (fun c_431 => absurd (by decide) c_431) (fun c_431 => ?_)
        refine lv_iload X.1 X.2.1 dL_holds_434 (lv_at hl 7 rfl) ?_
        refine lv_iload X.1 X.2.1 dL_holds_436 (lv_at hl 6 rfl) ?_
        refine lv_icmp_gt (tgt := 485) X.1 X.2.1 dL_holds_438 (by decide) (fun c_438 => absurd c_438 (Int32.not_lt.mpr g5)) (fun c_438 => ?_)
        refine lv_iload X.1 X.2.1 dL_holds_441 (lv_at hl 4 rfl) ?_
        refine lv_aload_n X.1 X.2.1 dL_holds_443 rfl (lv_at hl 9 rfl) ?_
        refine lv_iconst (v := 5) X.1 X.2.1 dL_holds_444 (by decide) ?_
        refine lv_iconst (v := 4) X.1 X.2.1 dL_holds_445 (by decide) ?_
        refine lv_iconst (v := 0) X.1 X.2.1 dL_holds_446 (by decide) ?_
        refine lv_iconst (v := 0) X.1 X.2.1 dL_holds_447 (by decide) ?_
        refine kG1 (rest := [.int (σ.1 (16 + 8 * i + 5))]) (As := [.ref h, .int 5, .int 4, .int 0, .int 0]) X hP hD hS hl.1 o54.len (q_setting l hst G kk (by omega) o54 4 0 0 ) sl_L_138 ⟨Nat.le_of_ble_eq_true rfl, Nat.le_of_ble_eq_true rfl, rfl, rfl⟩ ⟨by show _ ≤ 200; omega, by show _ ≤ 1200; omega⟩ rfl (Nat.le_of_ble_eq_true rfl) dL_holds_448 (fun w55 r55 H locs hΦ a55 hP hD hS => ?_)
        obtain ⟨o55, rfl⟩ := hΦ
        replace a55 := a55.trans a54
        refine top_eq (y := (σ.1 14)) (qs_4 σ.1) ?_
        refine lv_icmp_lt (tgt := 485) X.1 X.2.1 dL_holds_451 (by decide) (fun c_451 => absurd c_451 (g6)) (fun c_451 => ?_)
        refine lv_iload X.1 X.2.1 dL_holds_454 (lv_at hl 8 rfl) ?_
        refine lv_bipush (v := 7) X.1 X.2.1 dL_holds_456 (by decide) ?_
        refine lv_icmp_ne (tgt := 481) X.1 X.2.1 dL_holds_458 (by decide) (fun c_458 => ?_) (fun c_458 => absurd c_458 (by decide))
        refine lv_iconst (v := 1) X.1 X.2.1 dL_holds_481 (by decide) ?_
        refine lv_goto (tgt := 486) X.1 X.2.1 dL_holds_482 (by decide) ?_
        refine lv_istore (lv' := [(8, .int 1), (7, .int (FTs σ.1 (i + 1))), (6, .int (TKs σ.1 (i + 1))), (16, .int 0), (15, .int (σ.1 (16 + 8 * i + 6))), (14, .int (σ.1 (16 + 8 * i + 5))), (13, .int (σ.1 (16 + 8 * i + 2))), (12, .int (σ.1 (16 + 8 * i + 1))), (11, .int (σ.1 (16 + 8 * i + 3))), (10, .int 6), (0, .ref h), (1, .int (nI (mF σ.1))), (2, .int (sX8_minutesLeft σ.1)), (3, .int (σ.1 10)), (4, .int (σ.1 12)), (5, .int (σ.1 2)), (9, .int (nI i))]) X.1 X.2.1 dL_holds_486 hl (by decide) rfl (fun ls hl => ?_)
        refine lv_iinc (v := (nI (i + 1))) (lv' := [(9, .int (nI (i + 1))), (8, .int 1), (7, .int (FTs σ.1 (i + 1))), (6, .int (TKs σ.1 (i + 1))), (16, .int 0), (15, .int (σ.1 (16 + 8 * i + 6))), (14, .int (σ.1 (16 + 8 * i + 5))), (13, .int (σ.1 (16 + 8 * i + 2))), (12, .int (σ.1 (16 + 8 * i + 1))), (11, .int (σ.1 (16 + 8 * i + 3))), (10, .int 6), (0, .ref h), (1, .int (nI (mF σ.1))), (2, .int (sX8_minutesLeft σ.1)), (3, .int (σ.1 10)), (4, .int (σ.1 12)), (5, .int (σ.1 2))]) X.1 X.2.1 dL_holds_488 hl (k := 16) rfl (nI_add i 1) (by decide) rfl (fun ls hl => ?_)
        refine lv_goto (tgt := 101) X.1 X.2.1 dL_holds_491 (by decide) ?_
        refine W.widen (k := 20 + 20 * (i + 1)) (n := 120 + 120 * (i + 1)) (by omega) (by omega) ?_
        exact ih (i + 1) _ o55 a55  _ _ ls hP hD hS (lv_sub hl [11, 12, 13, 14, 15, 16, 3, 2, 1, 0] rfl) (by omega)
      · skip
        refine kG1 (rest := []) (As := [.ref h, .int 4, .int (nI i), .int 0, .int 0]) X hP hD hS hl.1 o4.len (q_does l hst G kk (by omega) o4 (nI i) 0 0 ) sl_L_138 ⟨Nat.le_of_ble_eq_true rfl, Nat.le_of_ble_eq_true rfl, rfl, rfl⟩ ⟨by show _ ≤ 200; omega, by show _ ≤ 1200; omega⟩ rfl (Nat.le_of_ble_eq_true rfl) dL_holds_118 (fun w56 r56 H locs hΦ a56 hP hD hS => ?_)
        obtain ⟨o56, rfl⟩ := hΦ
        replace a56 := a56.trans a4
        refine top_eq (y := 7) ((qd_at ok hi).trans hd1) ?_
        refine lv_istore (lv' := [(10, .int 7), (0, .ref h), (1, .int (nI (mF σ.1))), (2, .int (sX8_minutesLeft σ.1)), (3, .int (σ.1 10)), (4, .int (σ.1 12)), (5, .int (σ.1 2)), (6, .int (TKs σ.1 i)), (7, .int (FTs σ.1 i)), (8, .int 1), (9, .int (nI i))]) X.1 X.2.1 dL_holds_121 hl (by decide) rfl (fun ls hl => ?_)
        refine lv_aload_n X.1 X.2.1 dL_holds_123 rfl (lv_at hl 1 rfl) ?_
        refine lv_iconst (v := 3) X.1 X.2.1 dL_holds_124 (by decide) ?_
        refine lv_iload X.1 X.2.1 dL_holds_125 (lv_at hl 10 rfl) ?_
        refine lv_iconst (v := 3) X.1 X.2.1 dL_holds_127 (by decide) ?_
        refine lv_iconst (v := 0) X.1 X.2.1 dL_holds_128 (by decide) ?_
        refine kG1 (rest := []) (As := [.ref h, .int 3, .int (nI i), .int 3, .int 0]) X hP hD hS hl.1 o56.len (q_room l hst G kk (by omega) o56 (nI i) 3 0 ) sl_L_138 ⟨Nat.le_of_ble_eq_true rfl, Nat.le_of_ble_eq_true rfl, rfl, rfl⟩ ⟨by show _ ≤ 200; omega, by show _ ≤ 1200; omega⟩ rfl (Nat.le_of_ble_eq_true rfl) dL_holds_129 (fun w57 r57 H locs hΦ a57 hP hD hS => ?_)
        obtain ⟨o57, rfl⟩ := hΦ
        replace a57 := a57.trans a56
        refine top_eq (y := (σ.1 (16 + 8 * i + 3))) (qr_at ok (w := 3) hi (by decide)) ?_
        refine lv_istore (lv' := [(11, .int (σ.1 (16 + 8 * i + 3))), (10, .int 7), (0, .ref h), (1, .int (nI (mF σ.1))), (2, .int (sX8_minutesLeft σ.1)), (3, .int (σ.1 10)), (4, .int (σ.1 12)), (5, .int (σ.1 2)), (6, .int (TKs σ.1 i)), (7, .int (FTs σ.1 i)), (8, .int 1), (9, .int (nI i))]) X.1 X.2.1 dL_holds_132 hl (by decide) rfl (fun ls hl => ?_)
        refine lv_aload_n X.1 X.2.1 dL_holds_134 rfl (lv_at hl 2 rfl) ?_
        refine lv_iconst (v := 3) X.1 X.2.1 dL_holds_135 (by decide) ?_
        refine lv_iload X.1 X.2.1 dL_holds_136 (lv_at hl 11 rfl) ?_
        refine lv_iconst (v := 1) X.1 X.2.1 dL_holds_138 (by decide) ?_
        refine lv_iconst (v := 0) X.1 X.2.1 dL_holds_139 (by decide) ?_
        refine kG1 (rest := []) (As := [.ref h, .int 3, .int (nI i), .int 1, .int 0]) X hP hD hS hl.1 o57.len (q_room l hst G kk (by omega) o57 (nI i) 1 0 ) sl_L_138 ⟨Nat.le_of_ble_eq_true rfl, Nat.le_of_ble_eq_true rfl, rfl, rfl⟩ ⟨by show _ ≤ 200; omega, by show _ ≤ 1200; omega⟩ rfl (Nat.le_of_ble_eq_true rfl) dL_holds_140 (fun w58 r58 H locs hΦ a58 hP hD hS => ?_)
        obtain ⟨o58, rfl⟩ := hΦ
        replace a58 := a58.trans a57
        refine top_eq (y := (σ.1 (16 + 8 * i + 1))) (qr_at ok (w := 1) hi (by decide)) ?_
        refine lv_istore (lv' := [(12, .int (σ.1 (16 + 8 * i + 1))), (11, .int (σ.1 (16 + 8 * i + 3))), (10, .int 7), (0, .ref h), (1, .int (nI (mF σ.1))), (2, .int (sX8_minutesLeft σ.1)), (3, .int (σ.1 10)), (4, .int (σ.1 12)), (5, .int (σ.1 2)), (6, .int (TKs σ.1 i)), (7, .int (FTs σ.1 i)), (8, .int 1), (9, .int (nI i))]) X.1 X.2.1 dL_holds_143 hl (by decide) rfl (fun ls hl => ?_)
        refine lv_aload_n X.1 X.2.1 dL_holds_145 rfl (lv_at hl 3 rfl) ?_
        refine lv_iconst (v := 3) X.1 X.2.1 dL_holds_146 (by decide) ?_
        refine lv_iload X.1 X.2.1 dL_holds_147 (lv_at hl 12 rfl) ?_
        refine lv_iconst (v := 2) X.1 X.2.1 dL_holds_149 (by decide) ?_
        refine lv_iconst (v := 0) X.1 X.2.1 dL_holds_150 (by decide) ?_
        refine kG1 (rest := []) (As := [.ref h, .int 3, .int (nI i), .int 2, .int 0]) X hP hD hS hl.1 o58.len (q_room l hst G kk (by omega) o58 (nI i) 2 0 ) sl_L_138 ⟨Nat.le_of_ble_eq_true rfl, Nat.le_of_ble_eq_true rfl, rfl, rfl⟩ ⟨by show _ ≤ 200; omega, by show _ ≤ 1200; omega⟩ rfl (Nat.le_of_ble_eq_true rfl) dL_holds_151 (fun w59 r59 H locs hΦ a59 hP hD hS => ?_)
        obtain ⟨o59, rfl⟩ := hΦ
        replace a59 := a59.trans a58
        refine top_eq (y := (σ.1 (16 + 8 * i + 2))) (qr_at ok (w := 2) hi (by decide)) ?_
        refine lv_istore (lv' := [(13, .int (σ.1 (16 + 8 * i + 2))), (12, .int (σ.1 (16 + 8 * i + 1))), (11, .int (σ.1 (16 + 8 * i + 3))), (10, .int 7), (0, .ref h), (1, .int (nI (mF σ.1))), (2, .int (sX8_minutesLeft σ.1)), (3, .int (σ.1 10)), (4, .int (σ.1 12)), (5, .int (σ.1 2)), (6, .int (TKs σ.1 i)), (7, .int (FTs σ.1 i)), (8, .int 1), (9, .int (nI i))]) X.1 X.2.1 dL_holds_154 hl (by decide) rfl (fun ls hl => ?_)
        refine lv_aload_n X.1 X.2.1 dL_holds_156 rfl (lv_at hl 4 rfl) ?_
        refine lv_iconst (v := 3) X.1 X.2.1 dL_holds_157 (by decide) ?_
        refine lv_iload X.1 X.2.1 dL_holds_158 (lv_at hl 13 rfl) ?_
        refine lv_iconst (v := 5) X.1 X.2.1 dL_holds_160 (by decide) ?_
        refine lv_iconst (v := 0) X.1 X.2.1 dL_holds_161 (by decide) ?_
        refine kG1 (rest := []) (As := [.ref h, .int 3, .int (nI i), .int 5, .int 0]) X hP hD hS hl.1 o59.len (q_room l hst G kk (by omega) o59 (nI i) 5 0 ) sl_L_138 ⟨Nat.le_of_ble_eq_true rfl, Nat.le_of_ble_eq_true rfl, rfl, rfl⟩ ⟨by show _ ≤ 200; omega, by show _ ≤ 1200; omega⟩ rfl (Nat.le_of_ble_eq_true rfl) dL_holds_162 (fun w60 r60 H locs hΦ a60 hP hD hS => ?_)
        obtain ⟨o60, rfl⟩ := hΦ
        replace a60 := a60.trans a59
        refine top_eq (y := (σ.1 (16 + 8 * i + 5))) (qr_at ok (w := 5) hi (by decide)) ?_
        refine lv_istore (lv' := [(14, .int (σ.1 (16 + 8 * i + 5))), (13, .int (σ.1 (16 + 8 * i + 2))), (12, .int (σ.1 (16 + 8 * i + 1))), (11, .int (σ.1 (16 + 8 * i + 3))), (10, .int 7), (0, .ref h), (1, .int (nI (mF σ.1))), (2, .int (sX8_minutesLeft σ.1)), (3, .int (σ.1 10)), (4, .int (σ.1 12)), (5, .int (σ.1 2)), (6, .int (TKs σ.1 i)), (7, .int (FTs σ.1 i)), (8, .int 1), (9, .int (nI i))]) X.1 X.2.1 dL_holds_165 hl (by decide) rfl (fun ls hl => ?_)
        refine lv_aload_n X.1 X.2.1 dL_holds_167 rfl (lv_at hl 5 rfl) ?_
        refine lv_iconst (v := 3) X.1 X.2.1 dL_holds_168 (by decide) ?_
        refine lv_iload X.1 X.2.1 dL_holds_169 (lv_at hl 14 rfl) ?_
        refine lv_bipush (v := 6) X.1 X.2.1 dL_holds_171 (by decide) ?_
        refine lv_iconst (v := 0) X.1 X.2.1 dL_holds_173 (by decide) ?_
        refine kG1 (rest := []) (As := [.ref h, .int 3, .int (nI i), .int 6, .int 0]) X hP hD hS hl.1 o60.len (q_room l hst G kk (by omega) o60 (nI i) 6 0 ) sl_L_138 ⟨Nat.le_of_ble_eq_true rfl, Nat.le_of_ble_eq_true rfl, rfl, rfl⟩ ⟨by show _ ≤ 200; omega, by show _ ≤ 1200; omega⟩ rfl (Nat.le_of_ble_eq_true rfl) dL_holds_174 (fun w61 r61 H locs hΦ a61 hP hD hS => ?_)
        obtain ⟨o61, rfl⟩ := hΦ
        replace a61 := a61.trans a60
        refine top_eq (y := (σ.1 (16 + 8 * i + 6))) (qr_at ok (w := 6) hi (by decide)) ?_
        refine lv_istore (lv' := [(15, .int (σ.1 (16 + 8 * i + 6))), (14, .int (σ.1 (16 + 8 * i + 5))), (13, .int (σ.1 (16 + 8 * i + 2))), (12, .int (σ.1 (16 + 8 * i + 1))), (11, .int (σ.1 (16 + 8 * i + 3))), (10, .int 7), (0, .ref h), (1, .int (nI (mF σ.1))), (2, .int (sX8_minutesLeft σ.1)), (3, .int (σ.1 10)), (4, .int (σ.1 12)), (5, .int (σ.1 2)), (6, .int (TKs σ.1 i)), (7, .int (FTs σ.1 i)), (8, .int 1), (9, .int (nI i))]) X.1 X.2.1 dL_holds_177 hl (by decide) rfl (fun ls hl => ?_)
        refine lv_iload X.1 X.2.1 dL_holds_179 (lv_at hl 5 rfl) ?_
        refine lv_iconst (v := 1) X.1 X.2.1 dL_holds_181 (by decide) ?_
        refine lv_icmp_eq (tgt := 191) X.1 X.2.1 dL_holds_182 (by decide) (fun c_182 => absurd c_182 (by decide)) (fun c_182 => ?_)
        refine lv_iload X.1 X.2.1 dL_holds_185 (lv_at hl 5 rfl) ?_
        refine lv_iconst (v := 3) X.1 X.2.1 dL_holds_187 (by decide) ?_
        refine lv_icmp_ne (tgt := 203) X.1 X.2.1 dL_holds_188 (by decide) (fun c_188 => ?_) (fun c_188 => absurd c_188 (by decide))
        refine lv_iload X.1 X.2.1 dL_holds_203 (lv_at hl 5 rfl) ?_
        refine lv_if_eq (tgt := 220) X.1 X.2.1 dL_holds_205 (by decide) (fun c_205 => absurd c_205 (by decide)) (fun c_205 => ?_)
        refine lv_iload X.1 X.2.1 dL_holds_208 (lv_at hl 5 rfl) ?_
        refine lv_iconst (v := 2) X.1 X.2.1 dL_holds_210 (by decide) ?_
        refine lv_icmp_eq (tgt := 220) X.1 X.2.1 dL_holds_211 (by decide) (fun c_211 => absurd c_211 (by decide)) (fun c_211 => ?_)
        refine lv_iload X.1 X.2.1 dL_holds_214 (lv_at hl 5 rfl) ?_
        refine lv_iconst (v := 5) X.1 X.2.1 dL_holds_216 (by decide) ?_
        refine lv_icmp_ne (tgt := 231) X.1 X.2.1 dL_holds_217 (by decide) (fun c_217 => ?_) (fun c_217 => absurd c_217 (by decide))
        refine lv_iconst (v := 0) X.1 X.2.1 dL_holds_231 (by decide) ?_
        refine lv_istore (lv' := [(16, .int 0), (15, .int (σ.1 (16 + 8 * i + 6))), (14, .int (σ.1 (16 + 8 * i + 5))), (13, .int (σ.1 (16 + 8 * i + 2))), (12, .int (σ.1 (16 + 8 * i + 1))), (11, .int (σ.1 (16 + 8 * i + 3))), (10, .int 7), (0, .ref h), (1, .int (nI (mF σ.1))), (2, .int (sX8_minutesLeft σ.1)), (3, .int (σ.1 10)), (4, .int (σ.1 12)), (5, .int (σ.1 2)), (6, .int (TKs σ.1 i)), (7, .int (FTs σ.1 i)), (8, .int 1), (9, .int (nI i))]) X.1 X.2.1 dL_holds_232 hl (by decide) rfl (fun ls hl => ?_)
        refine lv_iload X.1 X.2.1 dL_holds_234 (lv_at hl 13 rfl) ?_
        refine lv_iload X.1 X.2.1 dL_holds_236 (lv_at hl 0 rfl) ?_
        refine lv_iadd X.1 X.2.1 dL_holds_238 ?_
        refine top_eq (y := (TKs σ.1 (i + 1))) (by show _ = TKs σ.1 i + LDj σ.1 (JB σ.1 i) i; rw [hd1]; rfl) ?_
        refine lv_istore (lv' := [(6, .int (TKs σ.1 (i + 1))), (16, .int 0), (15, .int (σ.1 (16 + 8 * i + 6))), (14, .int (σ.1 (16 + 8 * i + 5))), (13, .int (σ.1 (16 + 8 * i + 2))), (12, .int (σ.1 (16 + 8 * i + 1))), (11, .int (σ.1 (16 + 8 * i + 3))), (10, .int 7), (0, .ref h), (1, .int (nI (mF σ.1))), (2, .int (sX8_minutesLeft σ.1)), (3, .int (σ.1 10)), (4, .int (σ.1 12)), (5, .int (σ.1 2)), (7, .int (FTs σ.1 i)), (8, .int 1), (9, .int (nI i))]) X.1 X.2.1 dL_holds_239 hl (by decide) rfl (fun ls hl => ?_)
        refine lv_iload X.1 X.2.1 dL_holds_241 (lv_at hl 14 rfl) ?_
        refine lv_iload X.1 X.2.1 dL_holds_243 (lv_at hl 7 rfl) ?_
        refine lv_iconst (v := 3) X.1 X.2.1 dL_holds_245 (by decide) ?_
        refine lv_icmp_eq (tgt := 255) X.1 X.2.1 dL_holds_246 (by decide) (fun c_246 => absurd c_246 (by decide)) (fun c_246 => ?_)
        refine lv_iload X.1 X.2.1 dL_holds_249 (lv_at hl 7 rfl) ?_
        refine lv_iconst (v := 5) X.1 X.2.1 dL_holds_251 (by decide) ?_
        refine lv_icmp_ne (tgt := 259) X.1 X.2.1 dL_holds_252 (by decide) (fun c_252 => ?_) (fun c_252 => absurd c_252 (by decide))
        refine lv_iconst (v := 0) X.1 X.2.1 dL_holds_259 (by decide) ?_
        refine lv_iadd X.1 X.2.1 dL_holds_260 ?_
        refine top_eq (y := (FTs σ.1 (i + 1))) (by show _ = FTs σ.1 i + (if JB σ.1 i = 3 ∨ JB σ.1 i = 5 then 1 else 0); rw [hd1]; rfl) ?_
        refine lv_istore (lv' := [(7, .int (FTs σ.1 (i + 1))), (6, .int (TKs σ.1 (i + 1))), (16, .int 0), (15, .int (σ.1 (16 + 8 * i + 6))), (14, .int (σ.1 (16 + 8 * i + 5))), (13, .int (σ.1 (16 + 8 * i + 2))), (12, .int (σ.1 (16 + 8 * i + 1))), (11, .int (σ.1 (16 + 8 * i + 3))), (10, .int 7), (0, .ref h), (1, .int (nI (mF σ.1))), (2, .int (sX8_minutesLeft σ.1)), (3, .int (σ.1 10)), (4, .int (σ.1 12)), (5, .int (σ.1 2)), (8, .int 1), (9, .int (nI i))]) X.1 X.2.1 dL_holds_261 hl (by decide) rfl (fun ls hl => ?_)
        refine lv_iload X.1 X.2.1 dL_holds_263 (lv_at hl 6 rfl) ?_
        refine lv_iload X.1 X.2.1 dL_holds_265 (lv_at hl 5 rfl) ?_
        refine lv_icmp_ge (tgt := 485) X.1 X.2.1 dL_holds_267 (by decide) (fun c_267 => absurd c_267 (fa)) (fun c_267 => ?_)
        refine lv_iload X.1 X.2.1 dL_holds_270 (lv_at hl 7 rfl) ?_
        refine lv_sipush (v := (-400)) X.1 X.2.1 dL_holds_272 (by decide) ?_
        refine lv_icmp_lt (tgt := 485) X.1 X.2.1 dL_holds_275 (by decide) (fun c_275 => absurd c_275 (fb)) (fun c_275 => ?_)
        refine lv_iload X.1 X.2.1 dL_holds_278 (lv_at hl 7 rfl) ?_
        refine lv_sipush (v := 400) X.1 X.2.1 dL_holds_280 (by decide) ?_
        refine lv_icmp_gt (tgt := 485) X.1 X.2.1 dL_holds_283 (by decide) (fun c_283 => absurd c_283 (fc)) (fun c_283 => ?_)
        refine lv_iload X.1 X.2.1 dL_holds_286 (lv_at hl 4 rfl) ?_
        refine lv_if_lt (tgt := 485) X.1 X.2.1 dL_holds_288 (by decide) (fun c_288 => absurd c_288 (fd)) (fun c_288 => ?_)
        refine lv_iload X.1 X.2.1 dL_holds_291 (lv_at hl 4 rfl) ?_
        refine lv_bipush (v := 100) X.1 X.2.1 dL_holds_293 (by decide) ?_
        refine lv_icmp_gt (tgt := 485) X.1 X.2.1 dL_holds_295 (by decide) (fun c_295 => absurd c_295 (fe)) (fun c_295 => ?_)
        refine lv_iload X.1 X.2.1 dL_holds_298 (lv_at hl 3 rfl) ?_
        refine lv_if_lt (tgt := 485) X.1 X.2.1 dL_holds_300 (by decide) (fun c_300 => absurd c_300 (ff)) (fun c_300 => ?_)
        refine lv_iload X.1 X.2.1 dL_holds_303 (lv_at hl 8 rfl) ?_
        refine lv_if_ne (tgt := 312) X.1 X.2.1 dL_holds_305 (by decide) (fun c_305 => ?_) (fun c_305 => absurd c_305 (by decide))
        refine lv_iconst (v := 0) X.1 X.2.1 dL_holds_312 (by decide) ?_
        refine lv_iload X.1 X.2.1 dL_holds_313 (lv_at hl 3 rfl) ?_
        refine lv_if_le (tgt := 322) X.1 X.2.1 dL_holds_315 (by decide) (fun c_315 => ?_) (fun c_315 => absurd ((by rw [g1]; exact Int32.le_refl 0)) c_315)
        refine lv_iconst (v := 0) X.1 X.2.1 dL_holds_322 (by decide) ?_
        refine lv_icmp_ne (tgt := 485) X.1 X.2.1 dL_holds_323 (by decide) (fun c_323 => absurd (by decide) c_323) (fun c_323 => ?_)
        refine lv_iload X.1 X.2.1 dL_holds_326 (lv_at hl 8 rfl) ?_
        refine lv_iconst (v := 1) X.1 X.2.1 dL_holds_328 (by decide) ?_
        refine lv_icmp_ne (tgt := 336) X.1 X.2.1 dL_holds_329 (by decide) (fun c_329 => ?_) (fun c_329 => absurd c_329 (by decide))
        refine lv_iconst (v := 0) X.1 X.2.1 dL_holds_336 (by decide) ?_
        refine lv_iload X.1 X.2.1 dL_holds_337 (lv_at hl 3 rfl) ?_
        refine lv_if_ne (tgt := 353) X.1 X.2.1 dL_holds_339 (by decide) (fun c_339 => absurd (g1) c_339) (fun c_339 => ?_)
        refine lv_iload X.1 X.2.1 dL_holds_342 (lv_at hl 7 rfl) ?_
        refine lv_iload X.1 X.2.1 dL_holds_344 (lv_at hl 5 rfl) ?_
        refine lv_icmp_lt (tgt := 353) X.1 X.2.1 dL_holds_346 (by decide) (fun c_346 => ?_) (fun c_346 => absurd (g3) c_346)
        refine lv_iconst (v := 0) X.1 X.2.1 dL_holds_353 (by decide) ?_
        refine lv_icmp_ne (tgt := 485) X.1 X.2.1 dL_holds_354 (by decide) (fun c_354 => absurd (by decide) c_354) (fun c_354 => ?_)
        refine lv_iload X.1 X.2.1 dL_holds_357 (lv_at hl 8 rfl) ?_
        refine lv_iconst (v := 2) X.1 X.2.1 dL_holds_359 (by decide) ?_
        refine lv_icmp_ne (tgt := 367) X.1 X.2.1 dL_holds_360 (by decide) (fun c_360 => ?_) (fun c_360 => absurd c_360 (by decide))
        refine lv_iconst (v := 0) X.1 X.2.1 dL_holds_367 (by decide) ?_
        refine lv_iload X.1 X.2.1 dL_holds_368 (lv_at hl 3 rfl) ?_
        refine lv_if_ne (tgt := 391) X.1 X.2.1 dL_holds_370 (by decide) (fun c_370 => absurd (g1) c_370) (fun c_370 => ?_)
        refine lv_iload X.1 X.2.1 dL_holds_373 (lv_at hl 7 rfl) ?_
        refine lv_iload X.1 X.2.1 dL_holds_375 (lv_at hl 5 rfl) ?_
        refine lv_icmp_ge (tgt := 391) X.1 X.2.1 dL_holds_377 (by decide) (fun c_377 => absurd c_377 (Int32.not_le.mpr g3)) (fun c_377 => ?_)
        refine lv_iload X.1 X.2.1 dL_holds_380 (lv_at hl 4 rfl) ?_
        refine lv_bipush (v := 100) X.1 X.2.1 dL_holds_382 (by decide) ?_
        refine lv_icmp_ne (tgt := 391) X.1 X.2.1 dL_holds_384 (by decide) (fun c_384 => ?_) (fun c_384 => absurd c_384 (g4))
        refine lv_iconst (v := 0) X.1 X.2.1 dL_holds_391 (by decide) ?_
        refine lv_icmp_ne (tgt := 485) X.1 X.2.1 dL_holds_392 (by decide) (fun c_392 => absurd (by decide) c_392) (fun c_392 => ?_)
        refine lv_iload X.1 X.2.1 dL_holds_395 (lv_at hl 8 rfl) ?_
        refine lv_iconst (v := 3) X.1 X.2.1 dL_holds_397 (by decide) ?_
        refine lv_icmp_eq (tgt := 407) X.1 X.2.1 dL_holds_398 (by decide) (fun c_398 => absurd c_398 (by decide)) (fun c_398 => ?_)
        refine lv_iload X.1 X.2.1 dL_holds_401 (lv_at hl 8 rfl) ?_
        refine lv_iconst (v := 4) X.1 X.2.1 dL_holds_403 (by decide) ?_
        refine lv_icmp_ne (tgt := 421) X.1 X.2.1 dL_holds_404 (by decide) (fun c_404 => ?_) (fun c_404 => absurd c_404 (by decide))
        refine lv_iload X.1 X.2.1 dL_holds_421 (lv_at hl 8 rfl) ?_
        refine lv_iconst (v := 5) X.1 X.2.1 dL_holds_423 (by decide) ?_
        refine lv_icmp_eq (tgt := 434) X.1 X.2.1 dL_holds_424 (by decide) (fun c_424 => absurd c_424 (by decide)) (fun c_424 => ?_)
        refine lv_iload X.1 X.2.1 dL_holds_427 (lv_at hl 8 rfl) ?_
        refine lv_bipush (v := 6) X.1 X.2.1 dL_holds_429 (by decide) ?_
        refine lv_icmp_ne (tgt := 454) X.1 X.2.1 dL_holds_431 (by decide) (fun c_431 => ?_) (fun c_431 => absurd c_431 (by decide))
        refine lv_iload X.1 X.2.1 dL_holds_454 (lv_at hl 8 rfl) ?_
        refine lv_bipush (v := 7) X.1 X.2.1 dL_holds_456 (by decide) ?_
        refine lv_icmp_ne (tgt := 481) X.1 X.2.1 dL_holds_458 (by decide) (fun c_458 => absurd (by decide) c_458) (fun c_458 => ?_)
        refine lv_iload X.1 X.2.1 dL_holds_461 (lv_at hl 7 rfl) ?_
        refine lv_iload X.1 X.2.1 dL_holds_463 (lv_at hl 6 rfl) ?_
        refine lv_icmp_gt (tgt := 485) X.1 X.2.1 dL_holds_465 (by decide) (fun c_465 => absurd c_465 (Int32.not_lt.mpr g5)) (fun c_465 => ?_)
        refine lv_iload X.1 X.2.1 dL_holds_468 (lv_at hl 4 rfl) ?_
        refine lv_aload_n X.1 X.2.1 dL_holds_470 rfl (lv_at hl 9 rfl) ?_
        refine lv_iconst (v := 5) X.1 X.2.1 dL_holds_471 (by decide) ?_
        refine lv_iconst (v := 4) X.1 X.2.1 dL_holds_472 (by decide) ?_
        refine lv_iconst (v := 0) X.1 X.2.1 dL_holds_473 (by decide) ?_
        refine lv_iconst (v := 0) X.1 X.2.1 dL_holds_474 (by decide) ?_
        refine kG1 (rest := [.int (σ.1 (16 + 8 * i + 5))]) (As := [.ref h, .int 5, .int 4, .int 0, .int 0]) X hP hD hS hl.1 o61.len (q_setting l hst G kk (by omega) o61 4 0 0 ) sl_L_138 ⟨Nat.le_of_ble_eq_true rfl, Nat.le_of_ble_eq_true rfl, rfl, rfl⟩ ⟨by show _ ≤ 200; omega, by show _ ≤ 1200; omega⟩ rfl (Nat.le_of_ble_eq_true rfl) dL_holds_475 (fun w62 r62 H locs hΦ a62 hP hD hS => ?_)
        obtain ⟨o62, rfl⟩ := hΦ
        replace a62 := a62.trans a61
        refine top_eq (y := (σ.1 14)) (qs_4 σ.1) ?_
        refine lv_icmp_ge (tgt := 485) X.1 X.2.1 dL_holds_478 (by decide) (fun c_478 => absurd c_478 (Int32.not_le.mpr g6)) (fun c_478 => ?_)
        refine lv_iconst (v := 1) X.1 X.2.1 dL_holds_481 (by decide) ?_
        refine lv_goto (tgt := 486) X.1 X.2.1 dL_holds_482 (by decide) ?_
        refine lv_istore (lv' := [(8, .int 1), (7, .int (FTs σ.1 (i + 1))), (6, .int (TKs σ.1 (i + 1))), (16, .int 0), (15, .int (σ.1 (16 + 8 * i + 6))), (14, .int (σ.1 (16 + 8 * i + 5))), (13, .int (σ.1 (16 + 8 * i + 2))), (12, .int (σ.1 (16 + 8 * i + 1))), (11, .int (σ.1 (16 + 8 * i + 3))), (10, .int 7), (0, .ref h), (1, .int (nI (mF σ.1))), (2, .int (sX8_minutesLeft σ.1)), (3, .int (σ.1 10)), (4, .int (σ.1 12)), (5, .int (σ.1 2)), (9, .int (nI i))]) X.1 X.2.1 dL_holds_486 hl (by decide) rfl (fun ls hl => ?_)
        refine lv_iinc (v := (nI (i + 1))) (lv' := [(9, .int (nI (i + 1))), (8, .int 1), (7, .int (FTs σ.1 (i + 1))), (6, .int (TKs σ.1 (i + 1))), (16, .int 0), (15, .int (σ.1 (16 + 8 * i + 6))), (14, .int (σ.1 (16 + 8 * i + 5))), (13, .int (σ.1 (16 + 8 * i + 2))), (12, .int (σ.1 (16 + 8 * i + 1))), (11, .int (σ.1 (16 + 8 * i + 3))), (10, .int 7), (0, .ref h), (1, .int (nI (mF σ.1))), (2, .int (sX8_minutesLeft σ.1)), (3, .int (σ.1 10)), (4, .int (σ.1 12)), (5, .int (σ.1 2))]) X.1 X.2.1 dL_holds_488 hl (k := 16) rfl (nI_add i 1) (by decide) rfl (fun ls hl => ?_)
        refine lv_goto (tgt := 101) X.1 X.2.1 dL_holds_491 (by decide) ?_
        refine W.widen (k := 20 + 20 * (i + 1)) (n := 120 + 120 * (i + 1)) (by omega) (by omega) ?_
        exact ih (i + 1) _ o62 a62  _ _ ls hP hD hS (lv_sub hl [11, 12, 13, 14, 15, 16, 3, 2, 1, 0] rfl) (by omega)
  refine lv_aload_n X.1 X.2.1 dL_holds_0 rfl (lv_at hl 0 rfl) ?_
  refine lv_iconst (v := 2) X.1 X.2.1 dL_holds_1 (by decide) ?_
  refine lv_iconst (v := 0) X.1 X.2.1 dL_holds_2 (by decide) ?_
  refine lv_iconst (v := 0) X.1 X.2.1 dL_holds_3 (by decide) ?_
  refine lv_iconst (v := 0) X.1 X.2.1 dL_holds_4 (by decide) ?_
  refine kG1 (rest := []) (As := [.ref h, .int 2, .int 0, .int 0, .int 0]) X hP hD hS hl.1 o0.len (q_about l hst G kk (by omega) o0 0 0 0 ) sl_L_138 ⟨Nat.le_of_ble_eq_true rfl, Nat.le_of_ble_eq_true rfl, rfl, rfl⟩ ⟨by show _ ≤ 200; omega, by show _ ≤ 1200; omega⟩ rfl (Nat.le_of_ble_eq_true rfl) dL_holds_5 (fun w63 r63 H locs hΦ a63 hP hD hS => ?_)
  obtain ⟨o63, rfl⟩ := hΦ
  replace a63 := a63.trans a0
  refine top_eq (y := (nI (mF σ.1))) (qa_0 ok) ?_
  refine lv_istore_n (lv' := [(1, .int (nI (mF σ.1))), (0, .ref h)]) X.1 X.2.1 dL_holds_8 rfl hl (by decide) rfl (fun ls hl => ?_)
  refine lv_aload_n X.1 X.2.1 dL_holds_9 rfl (lv_at hl 1 rfl) ?_
  refine lv_iconst (v := 2) X.1 X.2.1 dL_holds_10 (by decide) ?_
  refine lv_iconst (v := 3) X.1 X.2.1 dL_holds_11 (by decide) ?_
  refine lv_iconst (v := 0) X.1 X.2.1 dL_holds_12 (by decide) ?_
  refine lv_iconst (v := 0) X.1 X.2.1 dL_holds_13 (by decide) ?_
  refine kG1 (rest := []) (As := [.ref h, .int 2, .int 3, .int 0, .int 0]) X hP hD hS hl.1 o63.len (q_about l hst G kk (by omega) o63 3 0 0 ) sl_L_138 ⟨Nat.le_of_ble_eq_true rfl, Nat.le_of_ble_eq_true rfl, rfl, rfl⟩ ⟨by show _ ≤ 200; omega, by show _ ≤ 1200; omega⟩ rfl (Nat.le_of_ble_eq_true rfl) dL_holds_14 (fun w64 r64 H locs hΦ a64 hP hD hS => ?_)
  obtain ⟨o64, rfl⟩ := hΦ
  replace a64 := a64.trans a63
  refine top_eq (y := (sX8_minutesLeft σ.1)) (qa_3 σ.1) ?_
  refine lv_istore_n (lv' := [(2, .int (sX8_minutesLeft σ.1)), (1, .int (nI (mF σ.1))), (0, .ref h)]) X.1 X.2.1 dL_holds_17 rfl hl (by decide) rfl (fun ls hl => ?_)
  refine lv_aload_n X.1 X.2.1 dL_holds_18 rfl (lv_at hl 2 rfl) ?_
  refine lv_iconst (v := 5) X.1 X.2.1 dL_holds_19 (by decide) ?_
  refine lv_iconst (v := 0) X.1 X.2.1 dL_holds_20 (by decide) ?_
  refine lv_iconst (v := 0) X.1 X.2.1 dL_holds_21 (by decide) ?_
  refine lv_iconst (v := 0) X.1 X.2.1 dL_holds_22 (by decide) ?_
  refine kG1 (rest := []) (As := [.ref h, .int 5, .int 0, .int 0, .int 0]) X hP hD hS hl.1 o64.len (q_setting l hst G kk (by omega) o64 0 0 0 ) sl_L_138 ⟨Nat.le_of_ble_eq_true rfl, Nat.le_of_ble_eq_true rfl, rfl, rfl⟩ ⟨by show _ ≤ 200; omega, by show _ ≤ 1200; omega⟩ rfl (Nat.le_of_ble_eq_true rfl) dL_holds_23 (fun w65 r65 H locs hΦ a65 hP hD hS => ?_)
  obtain ⟨o65, rfl⟩ := hΦ
  replace a65 := a65.trans a64
  refine top_eq (y := (σ.1 10)) (qs_0 σ.1) ?_
  refine lv_istore_n (lv' := [(3, .int (σ.1 10)), (2, .int (sX8_minutesLeft σ.1)), (1, .int (nI (mF σ.1))), (0, .ref h)]) X.1 X.2.1 dL_holds_26 rfl hl (by decide) rfl (fun ls hl => ?_)
  refine lv_aload_n X.1 X.2.1 dL_holds_27 rfl (lv_at hl 3 rfl) ?_
  refine lv_iconst (v := 5) X.1 X.2.1 dL_holds_28 (by decide) ?_
  refine lv_iconst (v := 2) X.1 X.2.1 dL_holds_29 (by decide) ?_
  refine lv_iconst (v := 0) X.1 X.2.1 dL_holds_30 (by decide) ?_
  refine lv_iconst (v := 0) X.1 X.2.1 dL_holds_31 (by decide) ?_
  refine kG1 (rest := []) (As := [.ref h, .int 5, .int 2, .int 0, .int 0]) X hP hD hS hl.1 o65.len (q_setting l hst G kk (by omega) o65 2 0 0 ) sl_L_138 ⟨Nat.le_of_ble_eq_true rfl, Nat.le_of_ble_eq_true rfl, rfl, rfl⟩ ⟨by show _ ≤ 200; omega, by show _ ≤ 1200; omega⟩ rfl (Nat.le_of_ble_eq_true rfl) dL_holds_32 (fun w66 r66 H locs hΦ a66 hP hD hS => ?_)
  obtain ⟨o66, rfl⟩ := hΦ
  replace a66 := a66.trans a65
  refine top_eq (y := (σ.1 12)) (qs_2 σ.1) ?_
  refine lv_istore (lv' := [(4, .int (σ.1 12)), (3, .int (σ.1 10)), (2, .int (sX8_minutesLeft σ.1)), (1, .int (nI (mF σ.1))), (0, .ref h)]) X.1 X.2.1 dL_holds_35 hl (by decide) rfl (fun ls hl => ?_)
  refine lv_aload_n X.1 X.2.1 dL_holds_37 rfl (lv_at hl 4 rfl) ?_
  refine lv_iconst (v := 2) X.1 X.2.1 dL_holds_38 (by decide) ?_
  refine lv_iconst (v := 2) X.1 X.2.1 dL_holds_39 (by decide) ?_
  refine lv_iconst (v := 0) X.1 X.2.1 dL_holds_40 (by decide) ?_
  refine lv_iconst (v := 0) X.1 X.2.1 dL_holds_41 (by decide) ?_
  refine kG1 (rest := []) (As := [.ref h, .int 2, .int 2, .int 0, .int 0]) X hP hD hS hl.1 o66.len (q_about l hst G kk (by omega) o66 2 0 0 ) sl_L_138 ⟨Nat.le_of_ble_eq_true rfl, Nat.le_of_ble_eq_true rfl, rfl, rfl⟩ ⟨by show _ ≤ 200; omega, by show _ ≤ 1200; omega⟩ rfl (Nat.le_of_ble_eq_true rfl) dL_holds_42 (fun w67 r67 H locs hΦ a67 hP hD hS => ?_)
  obtain ⟨o67, rfl⟩ := hΦ
  replace a67 := a67.trans a66
  refine top_eq (y := (σ.1 2)) (qa_2 σ.1) ?_
  refine lv_istore (lv' := [(5, .int (σ.1 2)), (4, .int (σ.1 12)), (3, .int (σ.1 10)), (2, .int (sX8_minutesLeft σ.1)), (1, .int (nI (mF σ.1))), (0, .ref h)]) X.1 X.2.1 dL_holds_45 hl (by decide) rfl (fun ls hl => ?_)
  refine lv_iconst (v := 0) X.1 X.2.1 dL_holds_47 (by decide) ?_
  refine lv_istore (lv' := [(6, .int 0), (5, .int (σ.1 2)), (4, .int (σ.1 12)), (3, .int (σ.1 10)), (2, .int (sX8_minutesLeft σ.1)), (1, .int (nI (mF σ.1))), (0, .ref h)]) X.1 X.2.1 dL_holds_48 hl (by decide) rfl (fun ls hl => ?_)
  refine lv_iconst (v := 0) X.1 X.2.1 dL_holds_50 (by decide) ?_
  refine lv_istore (lv' := [(7, .int 0), (6, .int 0), (5, .int (σ.1 2)), (4, .int (σ.1 12)), (3, .int (σ.1 10)), (2, .int (sX8_minutesLeft σ.1)), (1, .int (nI (mF σ.1))), (0, .ref h)]) X.1 X.2.1 dL_holds_51 hl (by decide) rfl (fun ls hl => ?_)
  refine lv_iload_n X.1 X.2.1 dL_holds_53 rfl (lv_at hl 5 rfl) ?_
  refine lv_bipush (v := 15) X.1 X.2.1 dL_holds_54 (by decide) ?_
  refine lv_aload_n X.1 X.2.1 dL_holds_56 rfl (lv_at hl 7 rfl) ?_
  refine lv_iconst (v := 2) X.1 X.2.1 dL_holds_57 (by decide) ?_
  refine lv_iconst (v := 1) X.1 X.2.1 dL_holds_58 (by decide) ?_
  refine lv_iconst (v := 0) X.1 X.2.1 dL_holds_59 (by decide) ?_
  refine lv_iconst (v := 0) X.1 X.2.1 dL_holds_60 (by decide) ?_
  refine kG1 (rest := [.int 15, .int (sX8_minutesLeft σ.1)]) (As := [.ref h, .int 2, .int 1, .int 0, .int 0]) X hP hD hS hl.1 o67.len (q_about l hst G kk (by omega) o67 1 0 0 ) sl_L_138 ⟨Nat.le_of_ble_eq_true rfl, Nat.le_of_ble_eq_true rfl, rfl, rfl⟩ ⟨by show _ ≤ 200; omega, by show _ ≤ 1200; omega⟩ rfl (Nat.le_of_ble_eq_true rfl) dL_holds_61 (fun w68 r68 H locs hΦ a68 hP hD hS => ?_)
  obtain ⟨o68, rfl⟩ := hΦ
  replace a68 := a68.trans a67
  refine top_eq (y := (σ.1 1)) (qa_1 σ.1) ?_
  refine lv_aload_n X.1 X.2.1 dL_holds_64 rfl (lv_at hl 7 rfl) ?_
  refine lv_iconst (v := 5) X.1 X.2.1 dL_holds_65 (by decide) ?_
  refine lv_iconst (v := 1) X.1 X.2.1 dL_holds_66 (by decide) ?_
  refine lv_iconst (v := 0) X.1 X.2.1 dL_holds_67 (by decide) ?_
  refine lv_iconst (v := 0) X.1 X.2.1 dL_holds_68 (by decide) ?_
  refine kG1 (rest := [.int (σ.1 1), .int 15, .int (sX8_minutesLeft σ.1)]) (As := [.ref h, .int 5, .int 1, .int 0, .int 0]) X hP hD hS hl.1 o68.len (q_setting l hst G kk (by omega) o68 1 0 0 ) sl_L_138 ⟨Nat.le_of_ble_eq_true rfl, Nat.le_of_ble_eq_true rfl, rfl, rfl⟩ ⟨by show _ ≤ 200; omega, by show _ ≤ 1200; omega⟩ rfl (Nat.le_of_ble_eq_true rfl) dL_holds_69 (fun w69 r69 H locs hΦ a69 hP hD hS => ?_)
  obtain ⟨o69, rfl⟩ := hΦ
  replace a69 := a69.trans a68
  refine top_eq (y := (σ.1 11)) (qs_1 σ.1) ?_
  refine lv_iadd X.1 X.2.1 dL_holds_72 ?_
  refine lv_bipush (v := 15) X.1 X.2.1 dL_holds_73 (by decide) ?_
  refine lv_irem X.1 X.2.1 dL_holds_75 (by decide) ?_
  refine lv_isub X.1 X.2.1 dL_holds_76 ?_
  refine lv_icmp_ne (tgt := 95) X.1 X.2.1 dL_holds_77 (by decide) (fun c_77 => absurd (rfl) c_77) (fun c_77 => ?_)
  refine lv_iload X.1 X.2.1 dL_holds_80 (lv_at hl 2 rfl) ?_
  refine lv_if_lt (tgt := 95) X.1 X.2.1 dL_holds_82 (by decide) (fun c_82 => absurd c_82 (sum_ge ok)) (fun c_82 => ?_)
  refine lv_iload_n X.1 X.2.1 dL_holds_85 rfl (lv_at hl 6 rfl) ?_
  refine lv_bipush (v := 6) X.1 X.2.1 dL_holds_86 (by decide) ?_
  refine lv_icmp_gt (tgt := 95) X.1 X.2.1 dL_holds_88 (by decide) (fun c_88 => absurd c_88 (le_6 hm6)) (fun c_88 => ?_)
  refine lv_iconst (v := 1) X.1 X.2.1 dL_holds_91 (by decide) ?_
  refine lv_goto (tgt := 96) X.1 X.2.1 dL_holds_92 (by decide) ?_
  refine lv_istore (lv' := [(8, .int 1), (7, .int 0), (6, .int 0), (5, .int (σ.1 2)), (4, .int (σ.1 12)), (3, .int (σ.1 10)), (2, .int (sX8_minutesLeft σ.1)), (1, .int (nI (mF σ.1))), (0, .ref h)]) X.1 X.2.1 dL_holds_96 hl (by decide) rfl (fun ls hl => ?_)
  refine lv_iconst (v := 0) X.1 X.2.1 dL_holds_98 (by decide) ?_
  refine lv_istore (lv' := [(9, .int 0), (8, .int 1), (7, .int 0), (6, .int 0), (5, .int (σ.1 2)), (4, .int (σ.1 12)), (3, .int (σ.1 10)), (2, .int (sX8_minutesLeft σ.1)), (1, .int (nI (mF σ.1))), (0, .ref h)]) X.1 X.2.1 dL_holds_99 hl (by decide) rfl (fun ls hl => ?_)
  have hl : lv_has ls 17 [(9, .int (nI 0)), (8, .int 1), (7, .int (FTs σ.1 0)), (6, .int (TKs σ.1 0)), (5, .int (σ.1 2)), (4, .int (σ.1 12)), (3, .int (σ.1 10)), (2, .int (sX8_minutesLeft σ.1)), (1, .int (nI (mF σ.1))), (0, .ref h)] := hl
  refine W.widen (k := 20 + 20 * 0) (n := 120 + 120 * 0) (by omega) (by omega) ?_
  exact L1 (mF σ.1) 0 _ o69 a69  _ _ ls hP hD hS (lv_sub hl [9, 8, 7, 6, 5, 4, 3, 2, 1, 0] rfl) (by omega)
