/-! PURE: a simulation -/
def TOK (B m : Nat) (q : Nat → Int32) (C : (Nat → Int32) × (Nat → Int32) × (Nat → Nat → Int32)) (R : (Nat → Int32) × (Nat → Int32) × (Nat → Int32)) : Prop :=
  SM R.2.1 C.1 C.2.1 C.2.2 ∧ OKs (B + 60) m R.2.1 ∧ QK q R.1
section P18
variable {f g u g4 u4 : Nat → Int32} {rv rv4 : Nat → Nat → Int32} {B m : Nat} {q tx ft dy kp ik jb : Nat → Int32}
theorem tok_f (sr : SM ft g u rv) (ok : OKs B m ft) : TOK B m q (g, u, rv) (q, ft, jb) := ⟨sr, ok.mono (Nat.le_add_right _ _), fun _ _ => rfl⟩
theorem adI {a b : Nat} (h : a + b < 2 ^ 31) : nI a + nI b = nI (a + b) := by
  refine Int32.toInt_inj.mp ?_
  rw [nI_i h, ia] <;> rw [nI_i (show a < 2 ^ 31 by omega), nI_i (show b < 2 ^ 31 by omega)] <;> omega
theorem turn_ok (hB : B ≤ 99000) (sr : SM ft g u rv) (ok : OKs B m ft) {x : Int32} (hx : 0 ≤ x.toInt) : TOK B m q (sX7_doTurn g u rv x) (sX8_turn q tx f ft dy kp ik jb x m) := by
  obtain ⟨N, hN⟩ : ∃ N, N = x.toInt.toNat := ⟨_, rfl⟩
  have hl := Int32.toInt_lt x
  have hN2 : N < 2 ^ 31 := by omega
  have ex : x = nI N := Int32.toInt_inj.mp (by rw [nI_i hN2]; omega)
  have E1 : nI N - nI N / 8 * 8 = nI (N % 8) := md (b := 8) rfl (by decide) hN2
  have E2 : nI N / 8 = nI (N / 8) := dv (b := 8) rfl (by decide) hN2
  have hM : N / 8 < 2 ^ 31 := by omega
  generalize hMM : N / 8 = M at E2 hM
  have hA : N % 8 < 8 := Nat.mod_lt _ (by decide)
  generalize hAA : N % 8 = A at E1 hA
  have E3 : nI M - nI M / 6 * 6 = nI (M % 6) := md (b := 6) rfl (by decide) hM
  have E4 : nI M / 8 = nI (M / 8) := dv (b := 8) rfl (by decide) hM
  have hM8 : M / 8 < 2 ^ 31 := by omega
  have E5 : nI (M / 8) - nI (M / 8) / 3 * 3 = nI (M / 8 % 3) := md (b := 3) rfl (by decide) hM8
  have E6 : nI (M / 8) - nI (M / 8) / 401 * 401 = nI (M / 8 % 401) := md (b := 401) rfl (by decide) hM8
  have E7 : nI M - nI M / 1000 * 1000 = nI (M % 1000) := md (b := 1000) rfl (by decide) hM
  have E8 : nI M - nI M / 100 * 100 = nI (M % 100) := md (b := 100) rfl (by decide) hM
  have E9 : nI M - nI M / 15 * 15 = nI (M % 15) := md (b := 15) rfl (by decide) hM
  have hd : M % 6 < 10 := by omega
  have eC : sX7_doTurn g u rv x = (if nI A = 0 then (if nI (M / 8 % 3) = 0 then (sX7_doTurn_z_2 g u rv x (sX5_moveDoor g u rv (nI (M % 6)) 1)) else (sX7_doTurn_z_1 g u rv x (sX5_moveDoor g u rv (nI (M % 6)) 0))) else (if nI A = 1 then (if nI (M / 8 % 3) = 0 then (sX7_doTurn_z_4 g u rv x (sX5_moveDoor g u rv (nI (M % 6)) 1)) else (sX7_doTurn_z_3 g u rv x (sX5_moveDoor g u rv (nI (M % 6)) 0))) else (if nI A = 2 then (sX7_doTurn_z_5 g u rv x (sX5_takeGoods g u rv (nI (M % 6)) (nI (M / 8 % 401) - 200))) else (if nI A = 3 then (sX7_doTurn_z_6 g u rv x (sX5_changeSetting g u rv 0 (nI (M % 1000)))) else (if nI A = 4 then (sX7_doTurn_z_7 g u rv x (sX5_changeSetting g u rv 4 (1 + nI (M % 100)))) else (sX7_doTurn_z_8 g u rv x (sX5_passMinutes g u rv (1 + nI (M % 15))))))))) := by
    rw [ex]
    unfold sX7_doTurn
    rw [E1, E2, E3, E4, E5, E6, E7, E8, E9]
  have eR : sX8_turn q tx f ft dy kp ik jb x m = (if 2 ≤ nI A then (if nI A = 2 then (if (sX8_isRoom ft (nI (M % 6))) = 0 then (q, ft, jb) else (sX8_turn_z_2 q tx f ft dy kp ik jb x m (sX8_goodsOn ft ((nI (M % 6)).toNatClampNeg) (nI (M / 8 % 401) - 200)))) else (if nI A = 3 then (q, (upd ft 10 (nI (M % 1000))), jb) else (if nI A = 4 then (q, (upd ft 14 (1 + nI (M % 100))), jb) else (sX8_turn_z_1 q tx f ft dy kp ik jb x m (sX8_runOn q jb ft (1 + nI (M % 15)) m))))) else (if (sX8_isRoom ft (nI (M % 6))) = 0 then (q, ft, jb) else (sX8_turn_z_4 q tx f ft dy kp ik jb x m (if nI (M / 8 % 3) = 0 then 1 else 0) (sX8_doorOn ft m ((nI (M % 6)).toNatClampNeg) (if nI (M / 8 % 3) = 0 then 1 else 0))))) := by
    rw [ex]
    unfold sX8_turn sX8_turn_j52
    rw [E1, E2, E3, E4, E5, E6, E7, E8, E9]
  rw [eC, eR]
  have door : TOK B m q (if nI (M / 8 % 3) = 0 then (g, u, (sX5_moveDoor g u rv (nI (M % 6)) 1).2) else (g, u, (sX5_moveDoor g u rv (nI (M % 6)) 0).2)) (if (sX8_isRoom ft (nI (M % 6))) = 0 then (q, ft, jb) else (sX8_turn_z_4 q tx f ft dy kp ik jb x m (if nI (M / 8 % 3) = 0 then 1 else 0) (sX8_doorOn ft m ((nI (M % 6)).toNatClampNeg) (if nI (M / 8 % 3) = 0 then 1 else 0)))) := by
    by_cases hr : M % 6 < m
    · have hA := at_s sr ok hd hr
      have hM : ∀ y, sX5_moveDoor g u rv (nI (M % 6)) y = (1, updR rv (M % 6) (upd (rv (M % 6)) 5 y)) := fun y => oe_s hA
      rw [if_neg (fun z => (isr_d ok hd).mp z hr), tn_d hd, hM, hM]
      by_cases h3 : nI (M / 8 % 3) = 0
      · rw [if_pos h3, if_pos h3]
        obtain ⟨s1, s2, k, k1, k2⟩ := door_st sr ok hr (y := 1) (Or.inr rfl)
        rw [k2]
        exact tok_f s1 s2
      · rw [if_neg h3, if_neg h3]
        obtain ⟨s1, s2, k, k1, k2⟩ := door_st sr ok hr (y := 0) (Or.inl rfl)
        rw [k2]
        exact tok_f s1 s2
    · have hA := at_n sr ok hd hr
      have hM : ∀ y, sX5_moveDoor g u rv (nI (M % 6)) y = (0, rv) := fun y => oe_n hA
      rw [if_pos ((isr_d ok hd).mpr hr), hM, hM, ite_self]
      exact tok_f sr ok
  have hA8 : A = 0 ∨ A = 1 ∨ A = 2 ∨ A = 3 ∨ A = 4 ∨ 5 ≤ A := by omega
  rcases hA8 with h | h | h | h | h | h
  · rw [h, if_pos (show nI 0 = 0 from rfl), if_neg (show ¬ (2 : Int32) ≤ nI 0 by decide)]
    exact door
  · rw [h, if_neg (show ¬ nI 1 = 0 by decide), if_pos (show nI 1 = 1 from rfl), if_neg (show ¬ (2 : Int32) ≤ nI 1 by decide)]
    exact door
  · rw [h, if_neg (show ¬ nI 2 = 0 by decide), if_neg (show ¬ nI 2 = 1 by decide), if_pos (show nI 2 = 2 from rfl), if_pos (show (2 : Int32) ≤ nI 2 by decide), if_pos (show nI 2 = 2 from rfl)]
    by_cases hr : M % 6 < m
    · have hr6 : M % 6 < 6 := Nat.lt_of_lt_of_le hr ok.1
      have hAt := at_s sr ok hd hr
      have e2 : (200 : Int32).toInt = 200 := rfl
      have hb : -400 ≤ (nI (M / 8 % 401) - 200).toInt ∧ (nI (M / 8 % 401) - 200).toInt ≤ 400 := by
        rw [is_] <;> rw [nI_i (by omega), e2] <;> omega
      generalize nI (M / 8 % 401) - 200 = v at hb
      have hV : ¬ sX5_canBeTemperature v = 0 := fun z => (in32 (a := -400) (b := 400) rfl rfl).mp ((temp_iff _).mp z) hb
      have hT : sX5_takeGoods g u rv (nI (M % 6)) v = (1, updR rv (M % 6) (upd (rv (M % 6)) 4 v)) := (oe_s hAt).trans (if_neg hV)
      have s1 : SM (sX8_lay ft (M % 6) 3 v) g u (updR rv (M % 6) (upd (rv (M % 6)) 4 v)) := sm_room sr hr6 (w := 3) (by decide) _
      have s2 := ok_temp ok hr6 hb
      rw [if_neg (fun z => (isr_d ok hd).mp z hr), tn_d hd, hT]
      exact tok_f s1 s2
    · have hAt := at_n sr ok hd hr
      have hT : ∀ v, sX5_takeGoods g u rv (nI (M % 6)) v = (0, rv) := fun v => oe_n hAt
      rw [if_pos ((isr_d ok hd).mpr hr), hT]
      exact tok_f sr ok
  · rw [h, if_neg (show ¬ nI 3 = 0 by decide), if_neg (show ¬ nI 3 = 1 by decide), if_neg (show ¬ nI 3 = 2 by decide), if_pos (show nI 3 = 3 from rfl), if_pos (show (2 : Int32) ≤ nI 3 by decide), if_neg (show ¬ nI 3 = 2 by decide), if_pos (show nI 3 = 3 from rfl)]
    have ev : (nI (M % 1000)).toInt = ((M % 1000 : Nat) : Int) := nI_i (by omega)
    generalize nI (M % 1000) = v at ev
    have e0 : slo 0 = 0 := rfl
    have e9 : shi 0 = 9999 := rfl
    have hw : (0 : Int) ≤ (0 : Int32).toInt ∧ (0 : Int32).toInt ≤ 5 := ⟨by decide, by decide⟩
    have h1 : slo 0 ≤ v.toInt := by rw [e0, ev]; omega
    have h2 : v.toInt ≤ shi 0 := by rw [e9, ev]; omega
    obtain ⟨s1, s2⟩ := set_ok sr ok hw h1 h2
    have hT : sX5_changeSetting g u rv 0 v = (1, sX3_change u 0 v) := if_neg (fun z => (all_c 0 v).mp z ⟨hw, h1, h2⟩)
    rw [hT]
    exact tok_f s1 s2
  · rw [h, if_neg (show ¬ nI 4 = 0 by decide), if_neg (show ¬ nI 4 = 1 by decide), if_neg (show ¬ nI 4 = 2 by decide), if_neg (show ¬ nI 4 = 3 by decide), if_pos (show nI 4 = 4 from rfl), if_pos (show (2 : Int32) ≤ nI 4 by decide), if_neg (show ¬ nI 4 = 2 by decide), if_neg (show ¬ nI 4 = 3 by decide), if_pos (show nI 4 = 4 from rfl)]
    have ea : (1 : Int32) + nI (M % 100) = nI (1 + M % 100) := adI (a := 1) (by omega)
    rw [ea]
    have ev : (nI (1 + M % 100)).toInt = ((1 + M % 100 : Nat) : Int) := nI_i (by omega)
    generalize nI (1 + M % 100) = v at ev
    have e0 : slo 4 = 1 := rfl
    have e9 : shi 4 = 100 := rfl
    have hw : (0 : Int) ≤ (4 : Int32).toInt ∧ (4 : Int32).toInt ≤ 5 := ⟨by decide, by decide⟩
    have h1 : slo 4 ≤ v.toInt := by rw [e0, ev]; omega
    have h2 : v.toInt ≤ shi 4 := by rw [e9, ev]; omega
    obtain ⟨s1, s2⟩ := set_ok sr ok hw h1 h2
    have hT : sX5_changeSetting g u rv 4 v = (1, sX3_change u 4 v) := if_neg (fun z => (all_c 4 v).mp z ⟨hw, h1, h2⟩)
    rw [hT]
    exact tok_f s1 s2
  · rw [if_neg (ne_nI (j := 0) rfl (by omega) (by omega)), if_neg (ne_nI (j := 1) rfl (by omega) (by omega)), if_neg (ne_nI (j := 2) rfl (by omega) (by omega)), if_neg (ne_nI (j := 3) rfl (by omega) (by omega)), if_neg (ne_nI (j := 4) rfl (by omega) (by omega)), if_pos ((le_nI (b := 2) rfl (by omega)).mpr (by omega)), if_neg (ne_nI (j := 2) rfl (by omega) (by omega)), if_neg (ne_nI (j := 3) rfl (by omega) (by omega)), if_neg (ne_nI (j := 4) rfl (by omega) (by omega))]
    have ea : (1 : Int32) + nI (M % 15) = nI (1 + M % 15) := adI (a := 1) (by omega)
    rw [ea]
    have hin : ¬ sX8_in (nI (1 + M % 15)).toInt64 1 60 = 0 := fun z => (in_nI (a := 1) (b := 60) (by omega) rfl rfl).mp z (by omega)
    generalize nI (1 + M % 15) = v at hin
    obtain ⟨p1, p2, p3, p4, p5⟩ := pass_st (q := q) (jb := jb) hB sr ok hin
    exact ⟨p2, p3, p4⟩
theorem sim_loop {sd : Int64} {y : Int32} {lc : Int64 → Int64} {hi : Int64 → Int32} {z1 : (Nat → Int32) × (Nat → Int32) × (Nat → Nat → Int32)} {z : Nat → Int32} (hh : ∀ x, 0 ≤ (hi x).toInt) (sr : SM f g u rv) : ∀ (d i Bc : Nat) (x1 : Int64) (g1 u1 : Nat → Int32) (rv1 : Nat → Nat → Int32) (q1 jb1 ft1 : Nat → Int32), Bc + 60 * d ≤ 99000 → SM ft1 g1 u1 rv1 → OKs Bc m ft1 →
    (lp_X7_simulate_39 g4 u4 rv4 g u rv sd y lc hi z1 d i x1 g1 u1 rv1).1 = 0 ∧ (lp_X7_simulate_39 g4 u4 rv4 g u rv sd y lc hi z1 d i x1 g1 u1 rv1).2.1 = (lp_X8_simulate_45 q tx f ft dy kp ik jb m sd y lc hi z d i x1 q1 jb1 ft1).1 ∧ N0 (lp_X7_simulate_39 g4 u4 rv4 g u rv sd y lc hi z1 d i x1 g1 u1 rv1).2.2.2.2 ∧ QK q1 (lp_X8_simulate_45 q tx f ft dy kp ik jb m sd y lc hi z d i x1 q1 jb1 ft1).2.1
  | 0, i, Bc, x1, g1, u1, rv1, q1, jb1, ft1, hB, s1, o1 => by
    refine ⟨rfl, ?_, s1.2.2.1, fun _ _ => rfl⟩
    show 1000 * (g1 3 - g 3) + (g1 6 - g 6) = 1000 * (ft1 3 - f 3) + ft1 6 - f 6
    rw [s1.1 3 (by decide) (by decide), sr.1 3 (by decide) (by decide), s1.1 6 (by decide) (by decide), sr.1 6 (by decide) (by decide)]
    rw [Int32.sub_eq_add_neg (ft1 6), Int32.sub_eq_add_neg (1000 * (ft1 3 - f 3) + ft1 6), Int32.add_assoc]
  | d + 1, i, Bc, x1, g1, u1, rv1, q1, jb1, ft1, hB, s1, o1 => by
    obtain ⟨k1, k2, k3⟩ := turn_ok (f := f) (q := q1) (tx := tx) (dy := dy) (kp := kp) (ik := ik) (jb := jb1) (by omega) s1 o1 (hh (lc x1))
    have eC : lp_X7_simulate_39 g4 u4 rv4 g u rv sd y lc hi z1 (d + 1) i x1 g1 u1 rv1 = lp_X7_simulate_39 g4 u4 rv4 g u rv sd y lc hi z1 d (i + 1) (lc x1) (sX7_doTurn g1 u1 rv1 (hi (lc x1))).1 (sX7_doTurn g1 u1 rv1 (hi (lc x1))).2.1 (sX7_doTurn g1 u1 rv1 (hi (lc x1))).2.2 := rfl
    have eR : lp_X8_simulate_45 q tx f ft dy kp ik jb m sd y lc hi z (d + 1) i x1 q1 jb1 ft1 = lp_X8_simulate_45 q tx f ft dy kp ik jb m sd y lc hi z d (i + 1) (lc x1) (sX8_turn q1 tx f ft1 dy kp ik jb1 (hi (lc x1)) m).1 (sX8_turn q1 tx f ft1 dy kp ik jb1 (hi (lc x1)) m).2.2 (sX8_turn q1 tx f ft1 dy kp ik jb1 (hi (lc x1)) m).2.1 := rfl
    rw [eC, eR]
    generalize sX8_turn q1 tx f ft1 dy kp ik jb1 (hi (lc x1)) m = z2 at k1 k2 k3 ⊢
    generalize sX7_doTurn g1 u1 rv1 (hi (lc x1)) = y2 at k1 ⊢
    obtain ⟨r1, r2, r3, r4⟩ := sim_loop hh sr d (i + 1) (Bc + 60) (lc x1) y2.1 y2.2.1 y2.2.2 z2.1 z2.2.2 z2.2.1 (by omega) k1 k2
    exact ⟨r1, r2, r3, k3.trans r4⟩
theorem op_simulate (hB : B ≤ 95000) (n0 : N0 rv4) (sr : SM f g u rv) (ok : OKs B m f) {lc : Int64 → Int64} {hi : Int64 → Int32} (hh : ∀ x, 0 ≤ (hi x).toInt) (sd : Int64) (y : Int32) :
    EQOP 1 (sX7_simulate g4 u4 rv4 g u rv sd y lc hi).1 (sX7_simulate g4 u4 rv4 g u rv sd y lc hi).2.1 ((sX8_simulate q tx f ft dy kp ik jb m sd y lc hi).2.1 0) (sX8_simulate q tx f ft dy kp ik jb m sd y lc hi).1 ∧ N0 (sX7_simulate g4 u4 rv4 g u rv sd y lc hi).2.2.2.2 ∧ KR q (sX8_simulate q tx f ft dy kp ik jb m sd y lc hi).2.1 := by
  have z1' : (1 : Int32).toInt = 1 := rfl
  have z6 : (60 : Int32).toInt = 60 := rfl
  by_cases hA : sX8_in y.toInt64 1 60 = 0
  · have hb := (in32 (a := 1) (b := 60) rfl rfl).mp hA
    have eR : sX8_simulate q tx f ft dy kp ik jb m sd y lc hi = (0, upd q 0 1, ft, jb) := if_pos hA
    have eC : sX7_simulate g4 u4 rv4 g u rv sd y lc hi = (1, 0, g4, u4, rv4) := by
      unfold sX7_simulate
      by_cases h0 : y < 1
      · rw [if_pos h0]
      · rw [if_neg h0]
        have h5 : ¬ y ≤ 60 := fun h => by
          rw [le_i, z6] at h
          rw [lt_i, z1'] at h0
          omega
        rw [if_neg h5]
    rw [eC, eR]
    dsimp only
    exact ⟨⟨pk_us, fun h => absurd h (by decide)⟩, n0, KR.one q 1⟩
  · have hb : 1 ≤ y.toInt ∧ y.toInt ≤ 60 := lv_at0 (fun h => hA ((in32 (a := 1) (b := 60) rfl rfl).mpr h))
    have h0 : ¬ y < 1 := fun h => by
      rw [lt_i, z1'] at h
      omega
    have h5 : y ≤ 60 := by
      rw [le_i, z6]; omega
    have hn : y.toNatClampNeg ≤ 60 := by rw [tc_n]; omega
    obtain ⟨t1, t2, t3⟩ := tr_start (g4 := g4) (u4 := u4) (ft := ft) n0 sr ok
    have eC : sX7_simulate g4 u4 rv4 g u rv sd y lc hi = sX7_simulate_z_1 g4 u4 rv4 g u rv sd y lc hi (sX5_copyFrom g4 u4 rv4 g u rv) := by
      unfold sX7_simulate
      rw [if_neg h0, if_pos h5]
    have eR : sX8_simulate q tx f ft dy kp ik jb m sd y lc hi = sX8_simulate_z_1 q tx f ft dy kp ik jb m sd y lc hi (sX8_copyState 0 0 f ft) := if_neg hA
    generalize sX5_copyFrom g4 u4 rv4 g u rv = z1 at t1 eC
    generalize sX8_copyState 0 0 f ft = F at t1 t2 t3 eR
    have eC' : sX7_simulate g4 u4 rv4 g u rv sd y lc hi = lp_X7_simulate_39 g4 u4 rv4 g u rv sd y lc hi z1 y.toNatClampNeg 0 sd z1.1 z1.2.1 z1.2.2 := eC
    have eR' : sX8_simulate q tx f ft dy kp ik jb m sd y lc hi = lp_X8_simulate_45 q tx f ft dy kp ik jb m sd y lc hi F y.toNatClampNeg 0 sd (upd q 0 0) jb F := eR
    obtain ⟨r1, r2, r3, r4⟩ := sim_loop (g4 := g4) (u4 := u4) (rv4 := rv4) (q := q) (tx := tx) (ft := ft) (dy := dy) (kp := kp) (ik := ik) (jb := jb) (sd := sd) (y := y) (lc := lc) (z := F) (z1 := z1) hh sr y.toNatClampNeg 0 B sd z1.1 z1.2.1 z1.2.2 (upd q 0 0) jb F (by omega) t1 t2
    rw [eC', eR']
    generalize lp_X8_simulate_45 q tx f ft dy kp ik jb m sd y lc hi F y.toNatClampNeg 0 sd (upd q 0 0) jb F = zR at r2 r4 ⊢
    generalize lp_X7_simulate_39 g4 u4 rv4 g u rv sd y lc hi z1 y.toNatClampNeg 0 sd z1.1 z1.2.1 z1.2.2 = zC at r1 r2 r3 ⊢
    exact ⟨⟨by rw [r1, r4 0 (by decide)]; exact pk_us, fun _ => r2⟩, r3, KR.qk r4⟩
end P18
