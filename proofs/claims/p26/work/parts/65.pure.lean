/-! PURE: one group of a script -/
def GOK (B m : Nat) (q : Nat → Int32) (C : Int32 × (Nat → Int32) × (Nat → Int32) × (Nat → Nat → Int32)) (R : Int32 × (Nat → Int32) × (Nat → Int32) × (Nat → Int32)) : Prop :=
  C.1 = R.1 ∧ SM R.2.2.1 C.2.1 C.2.2.1 C.2.2.2 ∧ OKs (B + 60) m R.2.2.1 ∧ QK q R.2.1
section P16
variable {f g u : Nat → Int32} {rv : Nat → Nat → Int32} {B m : Nat} {q tx ft dy kp ik jb : Nat → Int32}
theorem gok_f (sr : SM ft g u rv) (ok : OKs B m ft) (z : Int32) : GOK B m q (z, g, u, rv) (z, q, ft, jb) := ⟨rfl, sr, ok.mono (Nat.le_add_right _ _), fun _ _ => rfl⟩
theorem isr_d (ok : OKs B m ft) {d : Nat} (hd : d < 10) : sX8_isRoom ft (nI d) = 0 ↔ ¬ d < m := by
  rw [isr_iff ok, nI_i (by omega)]; omega
theorem tn_d {d : Nat} (hd : d < 10) : (nI d).toNatClampNeg = d := by
  rw [tc_n, nI_i (by omega)]; omega
theorem at_n (sr : SM ft g u rv) (ok : OKs B m ft) {d : Nat} (hd : d < 10) (h : ¬ d < m) : sX5_roomAt g u rv (nI d) = none := roomAt_n sr ok ((isr_d ok hd).mpr h)
theorem at_s (sr : SM ft g u rv) (ok : OKs B m ft) {d : Nat} (hd : d < 10) (h : d < m) : sX5_roomAt g u rv (nI d) = some d := by
  have := roomAt_s sr ok (fun z => (isr_d ok hd).mp z h)
  rw [tn_d hd] at this
  exact this
theorem doors_b : ∀ (d i : Nat) (t : Int32) (j : Nat), j + d ≤ 100 → t = nI j → ∃ k, k ≤ 100 ∧ lp_X5_openDoors_13 g u rv d i t = nI k
  | 0, i, t, j, hj, ht => ⟨j, by omega, ht⟩
  | d + 1, i, t, j, hj, ht => by
    show ∃ k, k ≤ 100 ∧ lp_X5_openDoors_13 g u rv d (i + 1) (if sX2_isThere (rv i) = 0 then t else if rv i 5 = 0 then t else t + 1) = nI k
    by_cases h1 : sX2_isThere (rv i) = 0
    · rw [if_pos h1]; exact doors_b d (i + 1) t j (by omega) ht
    · rw [if_neg h1]
      by_cases h2 : rv i 5 = 0
      · rw [if_pos h2]; exact doors_b d (i + 1) t j (by omega) ht
      · rw [if_neg h2]; exact doors_b d (i + 1) (t + 1) (j + 1) (by omega) (by rw [ht]; exact nI_1 j)
/-- a door is moved -/
theorem door_st (sr : SM ft g u rv) (ok : OKs B m ft) {d : Nat} (hd : d < m) {y : Int32} (hy : zb y) :
    SM (sX8_lay ft d 4 y) g u (updR rv d (upd (rv d) 5 y)) ∧ OKs B m (sX8_lay ft d 4 y) ∧ ∃ k, k ≤ 100 ∧ sX8_doorOn ft m d y = (nI k, sX8_lay ft d 4 y) := by
  have hd6 : d < 6 := Nat.lt_of_lt_of_le hd ok.1
  have hxy : (if y = 0 then 0 else 1 : Int32) = y := by
    rcases hy with h | h <;> subst h <;> rfl
  have s1 : SM (sX8_lay ft d 4 y) g u (updR rv d (upd (rv d) 5 y)) := sm_room sr hd6 (w := 4) (by decide) y
  have s2 := ok_door ok hd6 hy
  refine ⟨s1, s2, ?_⟩
  have d1 := doors_eq s1 s2 ft ft m d y y 6 0 0 rfl
  have d2 := doors_2 ft m d y y (sX8_lay ft d 4 y) m 0 0
  obtain ⟨k, k1, k2⟩ := doors_b (g := g) (u := u) (rv := updR rv d (upd (rv d) 5 y)) 6 0 0 0 (by decide) rfl
  rw [Nat.sub_zero, k2] at d1
  refine ⟨k, k1, ?_⟩
  unfold sX8_doorOn sX8_doorOn_j12 sX8_doorOn_z_2
  rw [hxy]
  generalize lp_X8_doorOn_20 ft m d y y (sX8_lay ft d 4 y) m 0 0 = zz at d1 d2 ⊢
  rw [← d1, ← d2]
theorem pass_st (hB : B ≤ 99000) (sr : SM ft g u rv) (ok : OKs B m ft) {x : Int32} (hx : ¬ sX8_in x.toInt64 1 60 = 0) :
    (sX5_passMinutes g u rv x).1 = 1 ∧ SM (sX8_runOn q jb ft x m).2.2.2 (sX5_passMinutes g u rv x).2.1 u (sX5_passMinutes g u rv x).2.2 ∧ OKs (B + 60) m (sX8_runOn q jb ft x m).2.2.2 ∧ QK q (sX8_runOn q jb ft x m).2.1 ∧ ¬ (sX8_runOn q jb ft x m).1 < 0 := by
  have hb : 1 ≤ x.toInt ∧ x.toInt ≤ 60 := lv_at0 (fun h => hx ((in32 (a := 1) (b := 60) rfl rfl).mpr h))
  have hn : x.toNatClampNeg ≤ 60 := by rw [tc_n]; omega
  have hP : sX5_passMinutes g u rv x = (1, (cit u x.toNatClampNeg (g, rv)).1, (cit u x.toNatClampNeg (g, rv)).2) := (if_neg (fun z => hx ((pass_iff x).mp z))).trans (pm_cit x.toNatClampNeg 0 g rv)
  have hR : sX8_runOn q jb ft x m = ((mit m x.toNatClampNeg (q, jb, ft)).2.2 5 - ft 5, (mit m x.toNatClampNeg (q, jb, ft)).1, (mit m x.toNatClampNeg (q, jb, ft)).2.1, (mit m x.toNatClampNeg (q, jb, ft)).2.2) := rn_mit x.toNatClampNeg 0 q jb ft
  obtain ⟨i1, i2, i3⟩ := it_eq x.toNatClampNeg B g rv q jb ft (by omega) sr ok
  have iq := mit_q (m := m) x.toNatClampNeg q jb ft
  rw [hP, hR]
  generalize mit m x.toNatClampNeg (q, jb, ft) = z3 at i1 i2 i3 iq ⊢
  generalize cit u x.toNatClampNeg (g, rv) = y3 at i1 ⊢
  refine ⟨rfl, i1, i2.mono (by omega), iq, fun z => ?_⟩
  have z0 : (0 : Int32).toInt = 0 := rfl
  have o1 := ok.2.2.2.2.2.2.2.2.2.1
  have o2 := i2.2.2.2.2.2.2.2.2.2.1
  have o3 := i2.2.2.2.2.2.2.2.2.1
  have z' : z3.2.2 5 - ft 5 < 0 := z
  rw [lt_i, is_ (by omega) (by omega), z0] at z'
  omega
theorem pass_no {x : Int32} (hx : sX8_in x.toInt64 1 60 = 0) : sX5_passMinutes g u rv x = (0, g, rv) := if_pos ((pass_iff x).mpr hx)
theorem in_nI {n a b : Nat} {lo hi : Int64} (hn : n < 2 ^ 31) (ha : lo.toInt = (a : Int)) (hb : hi.toInt = (b : Int)) : sX8_in (nI n).toInt64 lo hi = 0 ↔ ¬ (a ≤ n ∧ n ≤ b) := by
  rw [in32 ha hb, nI_i hn]; omega
theorem ne_nI {k j : Nat} {c : Int32} (hc : c.toInt = (j : Int)) (hk : k < 2 ^ 31) (h : ¬ k = j) : ¬ nI k = c := fun z => h ((eq_nI hc hk).mp z)
variable {d h t l n : Nat}
theorem g_1 (sr : SM ft g u rv) (ok : OKs B m ft) (hd : d < 10) (hh : h < 10) (ht : t < 10) (hl : l < 10) (hn : n = 10000 * 1 + 1000 * d + 100 * h + 10 * t + l) :
    GOK B m q (sX7_doGroup g u rv (nI n)) (sX8_command q tx f ft dy kp ik jb (nI 1) (nI (1000 * d + 100 * h + 10 * t + l)) m) := by
  obtain ⟨D1, D2, D3, D4⟩ := dig (by decide) hd hh ht hl hn
  obtain ⟨F1, F2, F3, F4, F5, F6⟩ := dig_y hd hh ht hl
  have eC : sX7_doGroup g u rv (nI n) = (if nI (100 * h + 10 * t + l) = 0 then (if nI (100 * h + 10 * t + l) = 100 then (sX7_doGroup_z_2 g u rv (nI n) (sX5_moveDoor g u rv (nI d) 1)) else (sX7_doGroup_z_1 g u rv (nI n) (sX5_moveDoor g u rv (nI d) 0))) else (if nI (100 * h + 10 * t + l) = 100 then (if nI (100 * h + 10 * t + l) = 100 then (sX7_doGroup_z_4 g u rv (nI n) (sX5_moveDoor g u rv (nI d) 1)) else (sX7_doGroup_z_3 g u rv (nI n) (sX5_moveDoor g u rv (nI d) 0))) else (0, g, u, rv))) := by
    unfold sX7_doGroup
    rw [if_pos (show nI n / 10000 = 1 from D1), D2, D3]
  have eR : sX8_command q tx f ft dy kp ik jb (nI 1) (nI (1000 * d + 100 * h + 10 * t + l)) m = (if (sX8_isRoom ft (nI d)) = 0 then (0, q, ft, jb) else (if 2 ≤ nI h then (0, q, ft, jb) else (if nI (10 * t + l) = 0 then (sX8_command_z_3 q tx f ft dy kp ik jb (nI 1) (nI (1000 * d + 100 * h + 10 * t + l)) m (if nI l = 0 then 1 else 0) (if nI h = 1 then 1 else 0) (sX8_doorOn ft m ((nI d).toNatClampNeg) (if nI h = 1 then 1 else 0))) else (0, q, ft, jb)))) := by
    unfold sX8_command
    rw [F1]
    unfold sX8_command_j43
    rw [if_pos (show nI 1 = 1 from rfl), F2, F3, F4]
    unfold sX8_command_j142
    rw [F2]
  rw [eC, eR]
  by_cases hr : d < m
  · rw [if_neg (fun z => (isr_d ok hd).mp z hr), tn_d hd]
    have hA := at_s sr ok hd hr
    have hM : ∀ y, sX5_moveDoor g u rv (nI d) y = (1, updR rv d (upd (rv d) 5 y)) := fun y => oe_s hA
    have key : ∀ {y : Int32}, zb y → GOK B m q (1, g, u, updR rv d (upd (rv d) 5 y)) (sX8_command_z_3 q tx f ft dy kp ik jb (nI 1) (nI (1000 * d + 100 * h + 10 * t + l)) m (if nI l = 0 then 1 else 0) y (sX8_doorOn ft m d y)) := fun {y} hy => by
      obtain ⟨s1, s2, k, k1, k2⟩ := door_st sr ok hr hy
      rw [k2]
      unfold sX8_command_z_3
      dsimp only
      rw [if_neg (show ¬ nI k < 0 from nI_lt_f (a := k) (b := 0) (Nat.zero_le _) (by omega))]
      exact gok_f s1 s2 1
    by_cases e0 : 100 * h + 10 * t + l = 0
    · have h0 : h = 0 := by omega
      subst h0
      rw [if_pos (show nI (100 * 0 + 10 * t + l) = 0 by rw [e0]; rfl), if_neg (show ¬ nI (100 * 0 + 10 * t + l) = 100 by rw [e0]; decide), if_neg (show ¬ (2 : Int32) ≤ nI 0 by decide), if_pos (show nI (10 * t + l) = 0 by rw [show 10 * t + l = 0 by omega]; rfl), hM, if_neg (show ¬ nI 0 = 1 by decide)]
      exact key (Or.inl rfl)
    · rw [if_neg (ne_nI (j := 0) rfl (by omega) e0)]
      by_cases e1 : 100 * h + 10 * t + l = 100
      · have h1 : h = 1 := by omega
        subst h1
        have e1' : nI (100 * 1 + 10 * t + l) = 100 := by rw [e1]; rfl
        rw [if_pos e1', if_pos e1', if_neg (show ¬ (2 : Int32) ≤ nI 1 by decide), if_pos (show nI (10 * t + l) = 0 by rw [show 10 * t + l = 0 by omega]; rfl), hM, if_pos (show nI 1 = 1 from rfl)]
        exact key (Or.inr rfl)
      · rw [if_neg (ne_nI (j := 100) rfl (by omega) e1)]
        by_cases h2 : (2 : Int32) ≤ nI h
        · rw [if_pos h2]; exact gok_f sr ok 0
        · have h2' : ¬ 2 ≤ h := fun z => h2 ((le_nI (b := 2) rfl (by omega)).mpr z)
          rw [if_neg h2, if_neg (ne_nI (j := 0) rfl (by omega) (by omega))]
          exact gok_f sr ok 0
  · rw [if_pos ((isr_d ok hd).mpr hr)]
    have hA := at_n sr ok hd hr
    have hM : ∀ y, sX5_moveDoor g u rv (nI d) y = (0, rv) := fun y => oe_n hA
    rw [hM, hM]
    have e2 : sX7_doGroup_z_2 g u rv (nI n) (0, rv) = (0, g, u, rv) := rfl
    have e1 : sX7_doGroup_z_1 g u rv (nI n) (0, rv) = (0, g, u, rv) := rfl
    have e4 : sX7_doGroup_z_4 g u rv (nI n) (0, rv) = (0, g, u, rv) := rfl
    have e3 : sX7_doGroup_z_3 g u rv (nI n) (0, rv) = (0, g, u, rv) := rfl
    rw [e1, e2, e3, e4]
    simp only [ite_self]
    exact gok_f sr ok 0
theorem g_2 (hB : B ≤ 99000) (sr : SM ft g u rv) (ok : OKs B m ft) (hd : d < 10) (hh : h < 10) (ht : t < 10) (hl : l < 10) (hn : n = 10000 * 2 + 1000 * d + 100 * h + 10 * t + l) :
    GOK B m q (sX7_doGroup g u rv (nI n)) (sX8_command q tx f ft dy kp ik jb (nI 2) (nI (1000 * d + 100 * h + 10 * t + l)) m) := by
  obtain ⟨D1, D2, D3, D4⟩ := dig (by decide) hd hh ht hl hn
  obtain ⟨F1, F2, F3, F4, F5, F6⟩ := dig_y hd hh ht hl
  have eC : sX7_doGroup g u rv (nI n) = (if nI d = 0 then (sX7_doGroup_z_5 g u rv (nI n) (sX5_passMinutes g u rv (nI (100 * h + 10 * t + l)))) else (0, g, u, rv)) := by
    unfold sX7_doGroup
    rw [D1, if_neg (by decide), if_pos (show nI 2 = (2 : Int32) from rfl), D2, D3]
  have eR : sX8_command q tx f ft dy kp ik jb (nI 2) (nI (1000 * d + 100 * h + 10 * t + l)) m = (if (sX8_in ((nI (1000 * d + 100 * h + 10 * t + l)).toInt64) 1 60) = 0 then (0, q, ft, jb) else (sX8_command_z_4 q tx f ft dy kp ik jb (nI 2) (nI (1000 * d + 100 * h + 10 * t + l)) m (if nI l = 0 then 1 else 0) (sX8_runOn q jb ft (nI (1000 * d + 100 * h + 10 * t + l)) m))) := by
    unfold sX8_command
    rw [F1]
    unfold sX8_command_j43
    rw [if_neg (by decide), if_pos (show nI 2 = (2 : Int32) from rfl)]
  rw [eC, eR]
  by_cases d0 : d = 0
  · subst d0
    rw [if_pos (show nI 0 = 0 from rfl), show 1000 * 0 + 100 * h + 10 * t + l = 100 * h + 10 * t + l by omega]
    generalize nI (100 * h + 10 * t + l) = x
    by_cases hx : sX8_in x.toInt64 1 60 = 0
    · rw [if_pos hx, pass_no hx]
      exact gok_f sr ok 0
    · obtain ⟨p1, p2, p3, p4, p5⟩ := pass_st (q := q) (jb := jb) hB sr ok hx
      rw [if_neg hx]
      unfold sX7_doGroup_z_5 sX8_command_z_4
      rw [if_neg p5, if_neg (show ¬ (sX5_passMinutes g u rv x).1 = 0 by rw [p1]; decide)]
      exact ⟨rfl, p2, p3, p4⟩
  · rw [if_neg (ne_nI (j := 0) rfl (by omega) d0), if_pos ((in_nI (a := 1) (b := 60) (by omega) rfl rfl).mpr (by omega))]
    exact gok_f sr ok 0
theorem g_3 (hB : B ≤ 99000) (sr : SM ft g u rv) (ok : OKs B m ft) (hd : d < 10) (hh : h < 10) (ht : t < 10) (hl : l < 10) (hn : n = 10000 * 3 + 1000 * d + 100 * h + 10 * t + l) :
    GOK B m q (sX7_doGroup g u rv (nI n)) (sX8_command q tx f ft dy kp ik jb (nI 3) (nI (1000 * d + 100 * h + 10 * t + l)) m) := by
  obtain ⟨D1, D2, D3, D4⟩ := dig (by decide) hd hh ht hl hn
  obtain ⟨F1, F2, F3, F4, F5, F6⟩ := dig_y hd hh ht hl
  have eC : sX7_doGroup g u rv (nI n) = (if nI d = 0 then (if nI (100 * h + 10 * t + l) = 0 then (sX7_doGroup_z_6 g u rv (nI n) (sX5_passMinutes g u rv 15)) else (0, g, u, rv)) else (0, g, u, rv)) := by
    unfold sX7_doGroup
    rw [D1, if_neg (by decide), if_neg (by decide), if_pos (show nI 3 = (3 : Int32) from rfl), D2, D3]
  have eR : sX8_command q tx f ft dy kp ik jb (nI 3) (nI (1000 * d + 100 * h + 10 * t + l)) m = (if nI (1000 * d + 100 * h + 10 * t + l) = 0 then (sX8_command_z_5 q tx f ft dy kp ik jb (nI 3) (nI (1000 * d + 100 * h + 10 * t + l)) m (if nI l = 0 then 1 else 0) (sX8_runOn q jb ft 15 m)) else (0, q, ft, jb)) := by
    unfold sX8_command
    rw [F1]
    unfold sX8_command_j43
    rw [if_neg (by decide), if_neg (by decide), if_pos (show nI 3 = (3 : Int32) from rfl)]
  rw [eC, eR]
  by_cases d0 : d = 0
  · subst d0
    rw [if_pos (show nI 0 = 0 from rfl)]
    by_cases e0 : 100 * h + 10 * t + l = 0
    · rw [if_pos ((eq_nI (b := 0) rfl (by omega)).mpr e0), if_pos ((eq_nI (b := 0) rfl (by omega)).mpr (by omega))]
      obtain ⟨p1, p2, p3, p4, p5⟩ := pass_st (q := q) (jb := jb) hB sr ok (x := 15) (by decide)
      unfold sX7_doGroup_z_6 sX8_command_z_5
      generalize sX8_runOn q jb ft 15 m = zr at p2 p3 p4 p5 ⊢
      generalize sX5_passMinutes g u rv 15 = zp at p1 p2 ⊢
      rw [if_neg p5, if_neg (show ¬ zp.1 = 0 by rw [p1]; decide)]
      exact ⟨rfl, p2, p3, p4⟩
    · rw [if_neg (ne_nI (j := 0) rfl (by omega) e0), if_neg (ne_nI (j := 0) rfl (by omega) (by omega))]
      exact gok_f sr ok 0
  · rw [if_neg (ne_nI (j := 0) rfl (by omega) d0), if_neg (ne_nI (j := 0) rfl (by omega) (by omega))]
    exact gok_f sr ok 0
theorem g_4 (sr : SM ft g u rv) (ok : OKs B m ft) (hd : d < 10) (hh : h < 10) (ht : t < 10) (hl : l < 10) (hn : n = 10000 * 4 + 1000 * d + 100 * h + 10 * t + l) :
    GOK B m q (sX7_doGroup g u rv (nI n)) (sX8_command q tx f ft dy kp ik jb (nI 4) (nI (1000 * d + 100 * h + 10 * t + l)) m) := by
  obtain ⟨D1, D2, D3, D4⟩ := dig (by decide) hd hh ht hl hn
  obtain ⟨F1, F2, F3, F4, F5, F6⟩ := dig_y hd hh ht hl
  obtain ⟨E1, E2⟩ := dig_e hh ht hl
  have eC : sX7_doGroup g u rv (nI n) = (if nI l = 0 then (sX7_doGroup_z_7 g u rv (nI n) (sX5_changeSetting g u rv (nI d) (nI (10 * h + t)))) else (0, g, u, rv)) := by
    unfold sX7_doGroup
    rw [D1, if_neg (by decide), if_neg (by decide), if_neg (by decide), if_pos (show nI 4 = (4 : Int32) from rfl), D2, D3, E1, E2]
  have eR : sX8_command q tx f ft dy kp ik jb (nI 4) (nI (1000 * d + 100 * h + 10 * t + l)) m = (if (if nI l = 0 then 1 else 0 : Int32) = 0 then (0, q, ft, jb) else (if (sX8_isSetting (nI d) (nI (10 * h + t))) = 0 then (0, q, ft, jb) else (1, q, (upd ft (10 + ((nI d).toNatClampNeg)) (nI (10 * h + t))), jb))) := by
    unfold sX8_command
    rw [F1]
    unfold sX8_command_j43
    rw [if_neg (by decide), if_neg (by decide), if_neg (by decide), if_pos (show nI 4 = (4 : Int32) from rfl), F2, F5]
  rw [eC, eR]
  by_cases l0 : nI l = 0
  · rw [if_pos l0, if_pos l0, if_neg (by decide)]
    generalize nI d = x
    generalize nI (10 * h + t) = y
    by_cases hA : sX8_isSetting x y = 0
    · have hT : sX5_changeSetting g u rv x y = (0, u) := if_pos ((all_iff x y).mpr hA)
      rw [hT, if_pos hA]
      exact gok_f sr ok 0
    · have hb := lv_at0 (fun z => hA ((all_m x y).mpr z))
      obtain ⟨s1, s2⟩ := set_ok sr ok hb.1 hb.2.1 hb.2.2
      have hT : sX5_changeSetting g u rv x y = (1, sX3_change u x y) := if_neg (fun z => hA ((all_iff x y).mp z))
      rw [hT, if_neg hA]
      exact gok_f s1 s2 1
  · rw [if_neg l0, if_neg l0, if_pos (show (0 : Int32) = 0 from rfl)]
    exact gok_f sr ok 0
theorem g_5 (sr : SM ft g u rv) (ok : OKs B m ft) (hd : d < 10) (hh : h < 10) (ht : t < 10) (hl : l < 10) (hn : n = 10000 * 5 + 1000 * d + 100 * h + 10 * t + l) :
    GOK B m q (sX7_doGroup g u rv (nI n)) (sX8_command q tx f ft dy kp ik jb (nI 5) (nI (1000 * d + 100 * h + 10 * t + l)) m) := by
  obtain ⟨D1, D2, D3, D4⟩ := dig (by decide) hd hh ht hl hn
  obtain ⟨F1, F2, F3, F4, F5, F6⟩ := dig_y hd hh ht hl
  obtain ⟨E1, E2⟩ := dig_e hh ht hl
  have eC : sX7_doGroup g u rv (nI n) = (if nI l = 0 then (sX7_doGroup_z_8 g u rv (nI n) (sX5_takeGoods g u rv (nI d) (nI (10 * h + t)))) else (0, g, u, rv)) := by
    unfold sX7_doGroup
    rw [D1, if_neg (by decide), if_neg (by decide), if_neg (by decide), if_neg (by decide), if_pos (show nI 5 = (5 : Int32) from rfl), D2, D3, E1, E2]
  have eR : sX8_command q tx f ft dy kp ik jb (nI 5) (nI (1000 * d + 100 * h + 10 * t + l)) m = (if (sX8_isRoom ft (nI d)) = 0 then (0, q, ft, jb) else (if (if nI l = 0 then 1 else 0 : Int32) = 0 then (0, q, ft, jb) else (sX8_command_z_6 q tx f ft dy kp ik jb (nI 5) (nI (1000 * d + 100 * h + 10 * t + l)) m (if nI l = 0 then 1 else 0) (sX8_goodsOn ft ((nI d).toNatClampNeg) (nI (10 * h + t)))))) := by
    unfold sX8_command
    rw [F1]
    unfold sX8_command_j43
    rw [if_neg (by decide), if_neg (by decide), if_neg (by decide), if_neg (by decide), if_pos (show nI 5 = (5 : Int32) from rfl), F2, F5]
  rw [eC, eR]
  by_cases l0 : nI l = 0
  · rw [if_pos l0, if_pos l0, if_neg (show ¬ (1 : Int32) = 0 by decide)]
    by_cases hr : d < m
    · have hr6 : d < 6 := Nat.lt_of_lt_of_le hr ok.1
      have hA := at_s sr ok hd hr
      have ev : (nI (10 * h + t)).toInt = ((10 * h + t : Nat) : Int) := nI_i (by omega)
      have hb : -400 ≤ (nI (10 * h + t)).toInt ∧ (nI (10 * h + t)).toInt ≤ 400 := by rw [ev]; omega
      have hV : ¬ sX5_canBeTemperature (nI (10 * h + t)) = 0 := fun z => (in32 (a := -400) (b := 400) rfl rfl).mp ((temp_iff _).mp z) hb
      have hT : sX5_takeGoods g u rv (nI d) (nI (10 * h + t)) = (1, updR rv d (upd (rv d) 4 (nI (10 * h + t)))) := (oe_s hA).trans (if_neg hV)
      have s1 : SM (sX8_lay ft d 3 (nI (10 * h + t))) g u (updR rv d (upd (rv d) 4 (nI (10 * h + t)))) := sm_room sr hr6 (w := 3) (by decide) _
      have s2 := ok_temp ok hr6 hb
      have ot := ((ok.2.2.2.2.2.2.2.2.2.2 d hr6).2.2.2.2.2 hr).1
      have e4 : (-400 : Int32).toInt = -400 := rfl
      have eG : sX8_goodsOn ft d (nI (10 * h + t)) = (ft (16 + 8 * d + 3), sX8_lay ft d 3 (nI (10 * h + t))) := rfl
      rw [if_neg (fun z => (isr_d ok hd).mp z hr), tn_d hd, hT, eG]
      unfold sX8_command_z_6
      rw [if_neg (show ¬ ft (16 + 8 * d + 3) < -400 by rw [lt_i, e4]; omega)]
      exact gok_f s1 s2 1
    · have hA := at_n sr ok hd hr
      have hT : sX5_takeGoods g u rv (nI d) (nI (10 * h + t)) = (0, rv) := oe_n hA
      rw [if_pos ((isr_d ok hd).mpr hr), hT]
      exact gok_f sr ok 0
  · rw [if_neg l0, if_neg l0, if_pos (show (0 : Int32) = 0 from rfl), ite_self]
    exact gok_f sr ok 0
theorem g_6 (sr : SM ft g u rv) (ok : OKs B m ft) (hd : d < 10) (hh : h < 10) (ht : t < 10) (hl : l < 10) (hn : n = 10000 * 6 + 1000 * d + 100 * h + 10 * t + l) :
    GOK B m q (sX7_doGroup g u rv (nI n)) (sX8_command q tx f ft dy kp ik jb (nI 6) (nI (1000 * d + 100 * h + 10 * t + l)) m) := by
  obtain ⟨D1, D2, D3, D4⟩ := dig (by decide) hd hh ht hl hn
  obtain ⟨F1, F2, F3, F4, F5, F6⟩ := dig_y hd hh ht hl
  obtain ⟨E1, E2⟩ := dig_e hh ht hl
  have eC : sX7_doGroup g u rv (nI n) = oe (sX5_roomAt g u rv (nI d)) (0, g, u, rv) (fun k_10 => (sX7_doGroup_z_11 g u rv (nI n) k_10 (if nI l = 0 then (if nI (10 * h + t) < rv k_10 6 then (0, rv) else (1, rv)) else (0, rv)))) := by
    unfold sX7_doGroup
    rw [D1, if_neg (by decide), if_neg (by decide), if_neg (by decide), if_neg (by decide), if_neg (by decide), if_pos (show nI 6 = (6 : Int32) from rfl), D2, D3]
    unfold sX7_isSo sX7_isSo0
    simp only [if_pos (show nI 6 = 6 from rfl), E1]
    simp only [E2]
  have eR : sX8_command q tx f ft dy kp ik jb (nI 6) (nI (1000 * d + 100 * h + 10 * t + l)) m = (if (sX8_isRoom ft (nI d)) = 0 then (0, q, ft, jb) else (if (if nI l = 0 then 1 else 0 : Int32) = 0 then (0, q, ft, jb) else (if (nI (10 * h + t)) < (sX8_of ft ((nI d).toNatClampNeg) 5) then (0, q, ft, jb) else (1, q, ft, jb)))) := by
    unfold sX8_command
    rw [F1]
    unfold sX8_command_j43
    rw [if_neg (by decide), if_neg (by decide), if_neg (by decide), if_neg (by decide), if_neg (by decide), if_pos (show nI 6 = (6 : Int32) from rfl), F2, F5]
  rw [eC, eR]
  by_cases hr : d < m
  · have hr6 : d < 6 := Nat.lt_of_lt_of_le hr ok.1
    have e6 : rv d 6 = sX8_of ft d 5 := sr.2.2.2 d 5 hr6 (by decide)
    rw [oe_s (at_s sr ok hd hr), if_neg (fun z => (isr_d ok hd).mp z hr), tn_d hd, e6]
    by_cases l0 : nI l = 0
    · rw [if_pos l0, if_pos l0, if_neg (show ¬ (1 : Int32) = 0 by decide)]
      by_cases hc : nI (10 * h + t) < sX8_of ft d 5
      · rw [if_pos hc, if_pos hc]; exact gok_f sr ok 0
      · rw [if_neg hc, if_neg hc]; exact gok_f sr ok 1
    · rw [if_neg l0, if_neg l0, if_pos (show (0 : Int32) = 0 from rfl)]
      exact gok_f sr ok 0
  · rw [oe_n (at_n sr ok hd hr), if_pos ((isr_d ok hd).mpr hr)]
    exact gok_f sr ok 0
theorem g_7 (hB : B ≤ 99000) (sr : SM ft g u rv) (ok : OKs B m ft) (hd : d < 10) (hh : h < 10) (ht : t < 10) (hl : l < 10) (hn : n = 10000 * 7 + 1000 * d + 100 * h + 10 * t + l) :
    GOK B m q (sX7_doGroup g u rv (nI n)) (sX8_command q tx f ft dy kp ik jb (nI 7) (nI (1000 * d + 100 * h + 10 * t + l)) m) := by
  obtain ⟨D1, D2, D3, D4⟩ := dig (by decide) hd hh ht hl hn
  obtain ⟨F1, F2, F3, F4, F5, F6⟩ := dig_y hd hh ht hl
  have eC : sX7_doGroup g u rv (nI n) = oe (sX5_roomAt g u rv (nI d)) (0, g, u, rv) (fun k => (sX7_doGroup_z_14 g u rv (nI n) k (sX7_isSo_z_1 g u rv (nI 7) k (nI (100 * h + 10 * t + l)) (sX5_planMinute g u rv)))) := by
    unfold sX7_doGroup
    rw [D1, if_neg (by decide), if_neg (by decide), if_neg (by decide), if_neg (by decide), if_neg (by decide), if_neg (by decide), if_pos (show nI 7 = (7 : Int32) from rfl), D2, D3]
    unfold sX7_isSo sX7_isSo0
    simp only [if_neg (show ¬ nI 7 = 6 by decide), if_pos (show nI 7 = 7 from rfl)]
  have eR : sX8_command q tx f ft dy kp ik jb (nI 7) (nI (1000 * d + 100 * h + 10 * t + l)) m = (if (sX8_isRoom ft (nI d)) = 0 then (0, q, ft, jb) else (if 8 ≤ nI (100 * h + 10 * t + l) then (0, q, ft, jb) else (sX8_command_z_7 q tx f ft dy kp ik jb (nI 7) (nI (1000 * d + 100 * h + 10 * t + l)) m (if nI l = 0 then 1 else 0) (sX8_doesIt_z_1 q tx f ft dy kp ik jb m ((nI d).toNatClampNeg) (nI (100 * h + 10 * t + l)) (sX8_find q jb ft m))))) := by
    unfold sX8_command
    rw [F1]
    unfold sX8_command_j43
    rw [if_neg (by decide), if_neg (by decide), if_neg (by decide), if_neg (by decide), if_neg (by decide), if_neg (by decide), if_pos (show nI 7 = (7 : Int32) from rfl), F6, F2]
    unfold sX8_doesIt
    rfl
  rw [eC, eR]
  by_cases hr : d < m
  · have hr6 : d < 6 := Nat.lt_of_lt_of_le hr ok.1
    rw [oe_s (at_s sr ok hd hr), if_neg (fun z => (isr_d ok hd).mp z hr), tn_d hd]
    obtain ⟨p1, p2, p3, p4, p5, p6⟩ := find_eq (Nat.le_trans hB (by decide)) sr ok q jb
    have hq := find_q q jb ft m
    generalize sX8_find q jb ft m = z1 at p1 p3 hq ⊢
    generalize sX5_planMinute g u rv = y1 at p1 p2 p3 p4 p5 p6 ⊢
    have s1 : SM ft g u y1.2 := ⟨sr.1, sr.2.1, fun i hi => (p2 i 0 (by decide)).trans (sr.2.2.1 i hi), fun i w hi hw => (p2 i (1 + w) (by omega)).trans (sr.2.2.2 i w hi hw)⟩
    have ok' := ok.mono (Nat.le_add_right B 60)
    obtain ⟨c7, c9⟩ := p3 d hr
    have eZ : sX7_doGroup_z_14 g u rv (nI n) d (sX7_isSo_z_1 g u rv (nI 7) d (nI (100 * h + 10 * t + l)) y1) = (if z1.2 d = nI (100 * h + 10 * t + l) then (1, g, u, y1.2) else (0, g, u, y1.2)) := by
      unfold sX7_isSo_z_1
      rw [c9]
      by_cases hz : z1.2 d = nI (100 * h + 10 * t + l)
      · rw [if_pos hz, if_pos hz]; rfl
      · rw [if_neg hz, if_neg hz]; rfl
    have eY : sX8_command_z_7 q tx f ft dy kp ik jb (nI 7) (nI (1000 * d + 100 * h + 10 * t + l)) m (if nI l = 0 then 1 else 0) (sX8_doesIt_z_1 q tx f ft dy kp ik jb m d (nI (100 * h + 10 * t + l)) z1) = (if z1.2 d = nI (100 * h + 10 * t + l) then (1, z1.1, ft, z1.2) else (0, z1.1, ft, z1.2)) := by
      unfold sX8_doesIt_z_1
      by_cases hz : z1.2 d = nI (100 * h + 10 * t + l)
      · rw [if_pos hz, if_pos hz]; rfl
      · rw [if_neg hz, if_neg hz]; rfl
    rw [eZ, eY]
    by_cases h8 : 8 ≤ nI (100 * h + 10 * t + l)
    · have h8' : 8 ≤ 100 * h + 10 * t + l := (le_nI (b := 8) rfl (by omega)).mp h8
      have hz : ¬ z1.2 d = nI (100 * h + 10 * t + l) := fun z => by
        have hi := congrArg Int32.toInt z
        rw [nI_i (by omega)] at hi
        rcases c7 with w | w | w | w | w | w | w | w <;> rw [w] at hi
        · have : (0 : Int32).toInt = 0 := rfl
          omega
        · have : (1 : Int32).toInt = 1 := rfl
          omega
        · have : (2 : Int32).toInt = 2 := rfl
          omega
        · have : (3 : Int32).toInt = 3 := rfl
          omega
        · have : (4 : Int32).toInt = 4 := rfl
          omega
        · have : (5 : Int32).toInt = 5 := rfl
          omega
        · have : (6 : Int32).toInt = 6 := rfl
          omega
        · have : (7 : Int32).toInt = 7 := rfl
          omega
      rw [if_pos h8, if_neg hz]
      exact ⟨rfl, s1, ok', fun _ _ => rfl⟩
    · rw [if_neg h8]
      by_cases hz : z1.2 d = nI (100 * h + 10 * t + l)
      · rw [if_pos hz, if_pos hz]; exact ⟨rfl, s1, ok', hq⟩
      · rw [if_neg hz, if_neg hz]; exact ⟨rfl, s1, ok', hq⟩
  · rw [oe_n (at_n sr ok hd hr), if_pos ((isr_d ok hd).mpr hr)]
    exact gok_f sr ok 0
theorem g_8 (sr : SM ft g u rv) (ok : OKs B m ft) (hd : d < 10) (hh : h < 10) (ht : t < 10) (hl : l < 10) (hn : n = 10000 * 8 + 1000 * d + 100 * h + 10 * t + l) :
    GOK B m q (sX7_doGroup g u rv (nI n)) (sX8_command q tx f ft dy kp ik jb (nI 8) (nI (1000 * d + 100 * h + 10 * t + l)) m) := by
  obtain ⟨D1, D2, D3, D4⟩ := dig (by decide) hd hh ht hl hn
  obtain ⟨F1, F2, F3, F4, F5, F6⟩ := dig_y hd hh ht hl
  have eC : sX7_doGroup g u rv (nI n) = (if nI d = 0 then (if 100 ≤ nI (100 * h + 10 * t + l) then (0, g, u, rv) else (if nI (100 * h + 10 * t + l) < (g 3) then (0, g, u, rv) else (1, g, u, rv))) else (0, g, u, rv)) := by
    unfold sX7_doGroup
    rw [D1, if_neg (by decide), if_neg (by decide), if_neg (by decide), if_neg (by decide), if_neg (by decide), if_neg (by decide), if_neg (by decide), if_pos (show nI 8 = (8 : Int32) from rfl), D2, D3]
  have eR : sX8_command q tx f ft dy kp ik jb (nI 8) (nI (1000 * d + 100 * h + 10 * t + l)) m = (if 100 ≤ nI (1000 * d + 100 * h + 10 * t + l) then (0, q, ft, jb) else (if nI (1000 * d + 100 * h + 10 * t + l) < (ft 3) then (0, q, ft, jb) else (1, q, ft, jb))) := by
    unfold sX8_command
    rw [F1]
    unfold sX8_command_j43
    rw [if_neg (by decide), if_neg (by decide), if_neg (by decide), if_neg (by decide), if_neg (by decide), if_neg (by decide), if_neg (by decide), if_pos (show nI 8 = (8 : Int32) from rfl)]
  rw [eC, eR, sr.1 3 (by decide) (by decide)]
  by_cases d0 : d = 0
  · subst d0
    rw [if_pos (show nI 0 = 0 from rfl), show 1000 * 0 + 100 * h + 10 * t + l = 100 * h + 10 * t + l by omega]
    by_cases h1 : (100 : Int32) ≤ nI (100 * h + 10 * t + l)
    · rw [if_pos h1, if_pos h1]; exact gok_f sr ok 0
    · rw [if_neg h1, if_neg h1]
      by_cases h2 : nI (100 * h + 10 * t + l) < ft 3
      · rw [if_pos h2, if_pos h2]; exact gok_f sr ok 0
      · rw [if_neg h2, if_neg h2]; exact gok_f sr ok 1
  · rw [if_neg (ne_nI (j := 0) rfl (by omega) d0), if_pos ((le_nI (b := 100) rfl (by omega)).mpr (by omega))]
    exact gok_f sr ok 0
theorem g_9 (sr : SM ft g u rv) (ok : OKs B m ft) (hd : d < 10) (hh : h < 10) (ht : t < 10) (hl : l < 10) (hn : n = 10000 * 9 + 1000 * d + 100 * h + 10 * t + l) :
    GOK B m q (sX7_doGroup g u rv (nI n)) (sX8_command q tx f ft dy kp ik jb (nI 9) (nI (1000 * d + 100 * h + 10 * t + l)) m) := by
  obtain ⟨D1, D2, D3, D4⟩ := dig (by decide) hd hh ht hl hn
  obtain ⟨F1, F2, F3, F4, F5, F6⟩ := dig_y hd hh ht hl
  have eC : sX7_doGroup g u rv (nI n) = oe (sX5_roomAt g u rv (nI d)) (0, g, u, rv) (fun k => (sX7_doGroup_z_17 g u rv (nI n) k (if sX2_isWarm (rv k) = 0 then (if nI (100 * h + 10 * t + l) = 0 then (1, rv) else (0, rv)) else (if nI (100 * h + 10 * t + l) = 1 then (1, rv) else (0, rv))))) := by
    unfold sX7_doGroup
    rw [D1, if_neg (by decide), if_neg (by decide), if_neg (by decide), if_neg (by decide), if_neg (by decide), if_neg (by decide), if_neg (by decide), if_neg (by decide), D2, D3]
    unfold sX7_isSo sX7_isSo0
    simp only [if_neg (show ¬ nI 9 = 6 by decide), if_neg (show ¬ nI 9 = 7 by decide), if_neg (show ¬ nI 9 = 8 by decide), if_pos (show nI 9 = 9 from rfl)]
  have eR : sX8_command q tx f ft dy kp ik jb (nI 9) (nI (1000 * d + 100 * h + 10 * t + l)) m = (if (sX8_isRoom ft (nI d)) = 0 then (0, q, ft, jb) else (if 2 ≤ nI (100 * h + 10 * t + l) then (0, q, ft, jb) else (if (sX8_isWarm ft ((nI d).toNatClampNeg)) = (if nI (100 * h + 10 * t + l) = 1 then 1 else 0) then (1, q, ft, jb) else (0, q, ft, jb)))) := by
    unfold sX8_command
    rw [F1]
    unfold sX8_command_j43
    rw [if_neg (by decide), if_neg (by decide), if_neg (by decide), if_neg (by decide), if_neg (by decide), if_neg (by decide), if_neg (by decide), if_neg (by decide), if_pos (show nI 9 = (9 : Int32) from rfl), F6, F2]
    unfold sX8_command_j378
    rw [F2]
  rw [eC, eR]
  by_cases hr : d < m
  · have hr6 : d < 6 := Nat.lt_of_lt_of_le hr ok.1
    rw [oe_s (at_s sr ok hd hr), if_neg (fun z => (isr_d ok hd).mp z hr), tn_d hd, warm_e sr hr6]
    by_cases e0 : 100 * h + 10 * t + l = 0
    · rw [e0, if_pos (show nI 0 = 0 from rfl), if_neg (show ¬ nI 0 = 1 by decide), if_neg (show ¬ (2 : Int32) ≤ nI 0 by decide), if_neg (show ¬ nI 0 = 1 by decide)]
      by_cases hw : sX8_isWarm ft d = 0
      · rw [if_pos hw, if_pos hw]; exact gok_f sr ok 1
      · rw [if_neg hw, if_neg hw]; exact gok_f sr ok 0
    · by_cases e1 : 100 * h + 10 * t + l = 1
      · rw [e1, if_neg (show ¬ nI 1 = 0 by decide), if_pos (show nI 1 = 1 from rfl), if_neg (show ¬ (2 : Int32) ≤ nI 1 by decide), if_pos (show nI 1 = 1 from rfl)]
        by_cases hw : sX8_isWarm ft d = 0
        · rw [if_pos hw, hw, if_neg (by decide)]; exact gok_f sr ok 0
        · have hw1 : sX8_isWarm ft d = 1 := by
            unfold sX8_isWarm at hw ⊢
            by_cases hc : sX8_of ft d 3 < sX8_of ft d 2
            · rw [if_pos hc] at hw; exact absurd rfl hw
            · rw [if_neg hc]
          rw [if_neg hw, if_pos hw1]; exact gok_f sr ok 1
      · rw [if_neg (ne_nI (j := 0) rfl (by omega) e0), if_neg (ne_nI (j := 1) rfl (by omega) e1), ite_self, if_pos ((le_nI (b := 2) rfl (by omega)).mpr (by omega))]
        exact gok_f sr ok 0
  · rw [oe_n (at_n sr ok hd hr), if_pos ((isr_d ok hd).mpr hr)]
    exact gok_f sr ok 0
theorem g_0 (sr : SM ft g u rv) (ok : OKs B m ft) (hd : d < 10) (hh : h < 10) (ht : t < 10) (hl : l < 10) (hn : n = 10000 * 0 + 1000 * d + 100 * h + 10 * t + l) :
    GOK B m q (sX7_doGroup g u rv (nI n)) (sX8_command q tx f ft dy kp ik jb (nI 0) (nI (1000 * d + 100 * h + 10 * t + l)) m) := by
  obtain ⟨D1, D2, D3, D4⟩ := dig (by decide) hd hh ht hl hn
  have eC : sX7_doGroup g u rv (nI n) = (0, g, u, rv) := by
    unfold sX7_doGroup
    rw [D1, if_neg (by decide), if_neg (by decide), if_neg (by decide), if_neg (by decide), if_neg (by decide), if_neg (by decide), if_neg (by decide), if_neg (by decide), D2, D3]
    unfold sX7_isSo sX7_isSo0
    simp only [if_neg (show ¬ nI 0 = 6 by decide), if_neg (show ¬ nI 0 = 7 by decide), if_neg (show ¬ nI 0 = 8 by decide), if_neg (show ¬ nI 0 = 9 by decide)]
    rcases sX5_roomAt g u rv (nI d) with _ | k
    · rfl
    · rfl
  have eR : sX8_command q tx f ft dy kp ik jb (nI 0) (nI (1000 * d + 100 * h + 10 * t + l)) m = (0, q, ft, jb) := by
    unfold sX8_command sX8_command_j43
    rw [if_neg (by decide), if_neg (by decide), if_neg (by decide), if_neg (by decide), if_neg (by decide), if_neg (by decide), if_neg (by decide), if_neg (by decide), if_neg (by decide)]
  rw [eC, eR]
  exact gok_f sr ok 0
/-- a group -/
theorem grp (hB : B ≤ 99000) (sr : SM ft g u rv) (ok : OKs B m ft) (hn : n < 100000) :
    GOK B m q (sX7_doGroup g u rv (nI n)) (sX8_command q tx f ft dy kp ik jb (nI n / 10000) (nI n - nI n / 10000 * 10000) m) := by
  have hk : n / 10000 = 0 ∨ n / 10000 = 1 ∨ n / 10000 = 2 ∨ n / 10000 = 3 ∨ n / 10000 = 4 ∨ n / 10000 = 5 ∨ n / 10000 = 6 ∨ n / 10000 = 7 ∨ n / 10000 = 8 ∨ n / 10000 = 9 := by omega
  have hd : n / 1000 % 10 < 10 := by omega
  have hh : n / 100 % 10 < 10 := by omega
  have ht : n / 10 % 10 < 10 := by omega
  have hl : n % 10 < 10 := by omega
  have hN : n = 10000 * (n / 10000) + 1000 * (n / 1000 % 10) + 100 * (n / 100 % 10) + 10 * (n / 10 % 10) + n % 10 := by omega
  obtain ⟨D1, -, -, D4⟩ := dig (show n / 10000 < 10 by omega) hd hh ht hl hN
  rw [D4, D1]
  rcases hk with e | e | e | e | e | e | e | e | e | e <;> rw [e] at hN ⊢
  · exact g_0 sr ok hd hh ht hl hN
  · exact g_1 sr ok hd hh ht hl hN
  · exact g_2 hB sr ok hd hh ht hl hN
  · exact g_3 hB sr ok hd hh ht hl hN
  · exact g_4 sr ok hd hh ht hl hN
  · exact g_5 sr ok hd hh ht hl hN
  · exact g_6 sr ok hd hh ht hl hN
  · exact g_7 hB sr ok hd hh ht hl hN
  · exact g_8 sr ok hd hh ht hl hN
  · exact g_9 sr ok hd hh ht hl hN
end P16
