/-! PURE: the least limit, the best door, the slots -/
section P13
variable {f g u g4 u4 : Nat → Int32} {rv rv4 : Nat → Nat → Int32} {B m : Nat} {q tx ft dy kp ik jb : Nat → Int32}
theorem minute_3 (hB : B ≤ 100000) (sr : SM f g u rv) (ok : OKs B m f) (q jb : Nat → Int32) : (sX8_minuteOn q jb f m).2.2 3 = f 3 ∨ (sX8_minuteOn q jb f m).2.2 3 = f 3 + 1 := by
  obtain ⟨p1, p2, p3, p4, p5, p6⟩ := find_eq hB sr ok q jb
  have hu2 : u 2 = f 12 := sr.2.1 2 (by decide)
  obtain ⟨t1, t2, t3, t4, t5, t6⟩ := meas_eq hB sr ok (k := (sX8_find q jb f m).1 10) (t := (sX5_planMinute g u rv).1 + u 2) (by rw [p1, hu2]) (by rw [← p1]; exact p5) (by rw [← p1]; exact p6)
  have eM : sX8_minuteOn q jb f m = lp_X8_minuteOn_15 q jb f m (sX8_find q jb f m) (sX8_measure f ((sX8_find q jb f m).1 10)) m 0 (sX8_measure f ((sX8_find q jb f m).1 10)) := rfl
  have e3 : sX8_measure f ((sX8_find q jb f m).1 10) 3 = f 3 ∨ sX8_measure f ((sX8_find q jb f m).1 10) 3 = f 3 + 1 := by
    generalize (sX8_find q jb f m).1 10 = k
    have eA : sX8_measure f k = sX8_measure_j20 f k (if (sX8_minutesLeft f) = 1 then 1 else 0) := rfl
    rw [eA]
    generalize (if (sX8_minutesLeft f) = 1 then 1 else 0 : Int32) = x1
    unfold sX8_measure_j20
    by_cases h : x1 = 0
    · rw [if_pos h]
      left
      simp (disch := omega) only [pk_un]
    · rw [if_neg h]
      unfold sX8_measure_j65 sX8_measure_j87
      by_cases h2 : ((f 2) + (k + (f 12))) ≤ (f 10)
      · rw [if_pos h2]
        left
        simp (disch := omega) only [pk_un, pk_us, Int32.add_zero]
      · rw [if_neg h2]
        right
        simp (disch := omega) only [pk_un, pk_us]
  generalize hF : sX8_measure f ((sX8_find q jb f m).1 10) = F at t1 t2 t3 t4 t5 t6 eM e3
  have hm := ok.1
  obtain ⟨g2, rv2, c1, l1, l2, l3, l4, l5, l6, l7, l8⟩ := rooms_eq (g := g) (u := u) (rv := rv) hm (jz := (sX8_find q jb f m).2) (F := F) (by rw [t4 15 (by decide)]; exact sr.2.1 5 (by decide)) (fun j hj => (p3 j hj).1) (sX5_planMinute g u rv) (sX5_takeUnits g u ((sX5_planMinute g u rv).1 + u 2)) q jb f (sX8_find q jb f m) rfl 6 0 (sX5_takeUnits g u ((sX5_planMinute g u rv).1 + u 2)) (sX5_planMinute g u rv).2 F rfl
    ⟨t1, t2, fun j w hj hw => by rw [p2 j (1 + w) (by omega), sr.2.2.2 j w hj hw, t4 _ (by omega)], fun j hj => by rw [p2 j 0 (by omega)]; exact sr.2.2.1 j hj, fun j _ h2 => (p3 j h2).2, fun x _ => rfl, fun x _ _ => rfl, fun j hj => by
      have o := ok.2.2.2.2.2.2.2.2.2.2 j hj
      unfold RO at o ⊢
      rw [t4 _ (by omega), t4 _ (by omega), t4 _ (by omega), t4 _ (by omega), t4 _ (by omega)]
      exact o⟩
  rw [Nat.sub_zero, ← eM] at l6
  rw [l6 3 (by decide)]
  exact e3
theorem mit_3 {u : Nat → Int32} {m : Nat} : ∀ (d B : Nat) (g : Nat → Int32) (rv : Nat → Nat → Int32) (q jb f : Nat → Int32), B + d ≤ 100001 → SM f g u rv → OKs B m f → ∃ k, k ≤ d ∧ (mit m d (q, jb, f)).2.2 3 = f 3 + nI k
  | 0, B, g, rv, q, jb, f, _, sr, ok => ⟨0, Nat.le_refl _, (Int32.add_zero _).symm⟩
  | d + 1, B, g, rv, q, jb, f, hB, sr, ok => by
    obtain ⟨h1, h2, h3⟩ := minute_eq (by omega) sr ok q jb
    have e2 : mit m (d + 1) (q, jb, f) = mit m d ((sX8_minuteOn q jb f m).1, (sX8_minuteOn q jb f m).2.1, (sX8_minuteOn q jb f m).2.2) := rfl
    obtain ⟨k, i1, i2⟩ := mit_3 d (B + 1) (sX5_passMinute g u rv).1 (sX5_passMinute g u rv).2 (sX8_minuteOn q jb f m).1 (sX8_minuteOn q jb f m).2.1 (sX8_minuteOn q jb f m).2.2 (by omega) h1 h2
    rw [e2, i2]
    rcases minute_3 (by omega) sr ok q jb with e | e
    · exact ⟨k, by omega, by rw [e]⟩
    · refine ⟨k + 1, by omega, ?_⟩
      rw [e, Int32.add_assoc, Int32.add_comm 1, nI_1]
theorem self_add {a : Int32} {k : Nat} (hk : k < 2 ^ 31) (h : a + nI k = a) : k = 0 := by
  have h0 : nI k = 0 := by simpa using h
  exact nI_inj (b := 0) hk (by decide) h0
theorem kept_loop {x y : Int32} {z1 : (Nat → Int32) × (Nat → Int32) × (Nat → Nat → Int32)} {z2 : Int32 × (Nat → Int32)} (h3 : g 3 = f 3) : ∀ (d i Bc k : Nat) (g1 : Nat → Int32) (rv1 : Nat → Nat → Int32) (q1 jb1 ft1 : Nat → Int32), Bc + d ≤ 100001 → k + d ≤ 100 → ft1 3 = f 3 + nI k → SM ft1 g1 z2.2 rv1 → OKs Bc m ft1 →
    (lp_X7_isKept_23 g4 u4 rv4 g u rv x y z1 z2 d i g1 rv1).1 = (if (mit m d (q1, jb1, ft1)).2.2 3 = f 3 then 1 else 0) ∧ N0 (lp_X7_isKept_23 g4 u4 rv4 g u rv x y z1 z2 d i g1 rv1).2.2.2
  | 0, i, Bc, k, g1, rv1, q1, jb1, ft1, hB, hk, hf, s1, o1 => by
    have eC : lp_X7_isKept_23 g4 u4 rv4 g u rv x y z1 z2 0 i g1 rv1 = (if (g1 3) = (g 3) then (1, g1, z2.2, rv1) else (0, g1, z2.2, rv1)) := rfl
    have e0 : (mit m 0 (q1, jb1, ft1)).2.2 3 = ft1 3 := rfl
    rw [eC, e0, s1.1 3 (by decide) (by decide), h3]
    by_cases h : ft1 3 = f 3
    · rw [if_pos h, if_pos h]; exact ⟨rfl, s1.2.2.1⟩
    · rw [if_neg h, if_neg h]; exact ⟨rfl, s1.2.2.1⟩
  | d + 1, i, Bc, k, g1, rv1, q1, jb1, ft1, hB, hk, hf, s1, o1 => by
    have eC : lp_X7_isKept_23 g4 u4 rv4 g u rv x y z1 z2 (d + 1) i g1 rv1 = (if (g1 3) = (g 3) then lp_X7_isKept_23 g4 u4 rv4 g u rv x y z1 z2 d (i + 1) (sX5_passMinute g1 z2.2 rv1).1 (sX5_passMinute g1 z2.2 rv1).2 else (if (g1 3) = (g 3) then (1, g1, z2.2, rv1) else (0, g1, z2.2, rv1))) := rfl
    have e2 : mit m (d + 1) (q1, jb1, ft1) = mit m d ((sX8_minuteOn q1 jb1 ft1 m).1, (sX8_minuteOn q1 jb1 ft1 m).2.1, (sX8_minuteOn q1 jb1 ft1 m).2.2) := rfl
    rw [eC, s1.1 3 (by decide) (by decide), h3]
    by_cases h : ft1 3 = f 3
    · rw [if_pos h, e2]
      obtain ⟨i1, i2, -⟩ := minute_eq (by omega) s1 o1 q1 jb1
      have k0 : k = 0 := self_add (by omega) (hf.symm.trans h)
      subst k0
      rcases minute_3 (by omega) s1 o1 q1 jb1 with e | e
      · exact kept_loop h3 d (i + 1) (Bc + 1) 0 _ _ _ _ _ (by omega) (by omega) (by rw [e]; exact hf) i1 i2
      · exact kept_loop h3 d (i + 1) (Bc + 1) 1 _ _ _ _ _ (by omega) (by omega) (by rw [e, h]; rfl) i1 i2
    · have kp : ¬ k = 0 := fun z => h (by rw [hf, z]; exact Int32.add_zero _)
      obtain ⟨k2, j1, j2⟩ := mit_3 (d + 1) Bc g1 rv1 q1 jb1 ft1 hB s1 o1
      have hne : ¬ (mit m (d + 1) (q1, jb1, ft1)).2.2 3 = f 3 := fun z => by
        rw [j2, hf, Int32.add_assoc] at z
        have ea : nI k + nI k2 = nI (k + k2) := Int32.toInt_inj.mp (by
          rw [ia] <;> rw [nI_toInt (by omega), nI_toInt (by omega)]
          · rw [nI_toInt (by omega)]; omega
          · omega
          · omega)
        rw [ea] at z
        have := self_add (by omega) z
        omega
      rw [if_neg h, if_neg h, if_neg hne]
      exact ⟨rfl, s1.2.2.1⟩
theorem kept_eq (hB : B ≤ 99000) (n0 : N0 rv4) (sr : SM f g u rv) (ok : OKs B m f) {x : Int32} (hx : x.toNatClampNeg ≤ 60) {k : Nat} (hk : k < 100) (q1 jb1 : Nat → Int32) : (sX7_isKept g4 u4 rv4 g u rv (nI (100 * k)) x).1 = (if (sX8_runOn q1 jb1 (upd (sX8_copyState 0 0 f ft) 10 (nI (100 * k))) x m).2.2.2 3 = f 3 then 1 else 0) ∧ N0 (sX7_isKept g4 u4 rv4 g u rv (nI (100 * k)) x).2.2.2 ∧ QK q1 (sX8_runOn q1 jb1 (upd (sX8_copyState 0 0 f ft) 10 (nI (100 * k))) x m).2.1 := by
  obtain ⟨t1, t2, t3⟩ := tr_start (g4 := g4) (u4 := u4) (ft := ft) n0 sr ok
  have eZ : sX7_isKept g4 u4 rv4 g u rv (nI (100 * k)) x = sX7_isKept_z_1 g4 u4 rv4 g u rv (nI (100 * k)) x (sX5_copyFrom g4 u4 rv4 g u rv) := rfl
  rw [eZ]
  generalize sX5_copyFrom g4 u4 rv4 g u rv = z1 at t1 ⊢
  generalize sX8_copyState 0 0 f ft = F at t1 t2 t3 ⊢
  have ev : (nI (100 * k)).toInt = ((100 * k : Nat) : Int) := nI_toInt (by omega)
  have hal : ¬ sX3_isAllowed 0 (nI (100 * k)) = 0 := fun z => (all_c 0 (nI (100 * k))).mp z ⟨⟨by decide, by decide⟩, by
    rw [ev]
    show (0 : Int) ≤ _
    omega, by
    rw [ev]
    show _ ≤ (9999 : Int)
    omega⟩
  obtain ⟨s1, s2⟩ := set_ok t1 t2 (w := 0) (v := nI (100 * k)) ⟨by decide, by decide⟩ (by
    rw [ev]
    show (0 : Int) ≤ _
    omega) (by
    rw [ev]
    show _ ≤ (9999 : Int)
    omega)
  have e10 : upd F (10 + (0 : Int32).toNatClampNeg) (nI (100 * k)) = upd F 10 (nI (100 * k)) := rfl
  rw [e10] at s1 s2
  have eC : sX5_changeSetting z1.1 z1.2.1 z1.2.2 0 (nI (100 * k)) = (1, sX3_change z1.2.1 0 (nI (100 * k))) := if_neg hal
  have eK : sX7_isKept_z_1 g4 u4 rv4 g u rv (nI (100 * k)) x z1 = lp_X7_isKept_23 g4 u4 rv4 g u rv (nI (100 * k)) x z1 (1, sX3_change z1.2.1 0 (nI (100 * k))) x.toNatClampNeg 0 z1.1 z1.2.2 := by
    unfold sX7_isKept_z_1
    rw [eC]
    rfl
  have hR : sX8_runOn q1 jb1 (upd F 10 (nI (100 * k))) x m = ((mit m x.toNatClampNeg (q1, jb1, (upd F 10 (nI (100 * k))))).2.2 5 - (upd F 10 (nI (100 * k))) 5, (mit m x.toNatClampNeg (q1, jb1, (upd F 10 (nI (100 * k))))).1, (mit m x.toNatClampNeg (q1, jb1, (upd F 10 (nI (100 * k))))).2.1, (mit m x.toNatClampNeg (q1, jb1, (upd F 10 (nI (100 * k))))).2.2) := rn_mit x.toNatClampNeg 0 q1 jb1 (upd F 10 (nI (100 * k)))
  have iq := mit_q (m := m) x.toNatClampNeg q1 jb1 (upd F 10 (nI (100 * k)))
  have h3 : g 3 = f 3 := sr.1 3 (by decide) (by decide)
  have hf : (upd F 10 (nI (100 * k))) 3 = f 3 + nI 0 := by
    rw [pk_un (by decide), t3 3 (by decide)]
    exact (Int32.add_zero _).symm
  obtain ⟨r1, r2⟩ := kept_loop (g4 := g4) (u4 := u4) (rv4 := rv4) (u := u) (rv := rv) (x := nI (100 * k)) (y := x) (z1 := z1) (z2 := (1, sX3_change z1.2.1 0 (nI (100 * k)))) h3 x.toNatClampNeg 0 B 0 z1.1 z1.2.2 q1 jb1 (upd F 10 (nI (100 * k))) (by omega) (by omega) hf s1 s2
  rw [eK, hR]
  exact ⟨r1, r2, iq⟩
theorem least_loop (hB : B ≤ 99000) (sr : SM f g u rv) (ok : OKs B m f) {x : Int32} (hx : x.toNatClampNeg ≤ 60) : ∀ (d i : Nat) (g1 u1 : Nat → Int32) (rv1 : Nat → Nat → Int32) (q1 jb1 ft1 : Nat → Int32), i + d = 100 → N0 rv1 →
    (lp_X7_leastLimit_19 g4 u4 rv4 g u rv x d (100 * i) g1 u1 rv1).1 = 0 ∧ (lp_X7_leastLimit_19 g4 u4 rv4 g u rv x d (100 * i) g1 u1 rv1).2.1 = (lp_X8_leastLimit_28 q tx f ft dy kp ik jb m x d i q1 jb1 ft1).1 ∧ N0 (lp_X7_leastLimit_19 g4 u4 rv4 g u rv x d (100 * i) g1 u1 rv1).2.2.2.2 ∧ QK q1 (lp_X8_leastLimit_28 q tx f ft dy kp ik jb m x d i q1 jb1 ft1).2.1
  | 0, i, g1, u1, rv1, q1, jb1, ft1, hd, n1 => ⟨rfl, rfl, n1, fun _ _ => rfl⟩
  | d + 1, i, g1, u1, rv1, q1, jb1, ft1, hd, n1 => by
    obtain ⟨k1, k2, k3⟩ := kept_eq (g4 := g1) (u4 := u1) (ft := ft1) hB n1 sr ok hx (k := i) (by omega) q1 jb1
    have eC : lp_X7_leastLimit_19 g4 u4 rv4 g u rv x (d + 1) (100 * i) g1 u1 rv1 = (if (sX7_isKept g1 u1 rv1 g u rv (nI (100 * i)) x).1 = 0 then (lp_X7_leastLimit_19 g4 u4 rv4 g u rv x d (100 * i + 100) (sX7_isKept g1 u1 rv1 g u rv (nI (100 * i)) x).2.1 (sX7_isKept g1 u1 rv1 g u rv (nI (100 * i)) x).2.2.1 (sX7_isKept g1 u1 rv1 g u rv (nI (100 * i)) x).2.2.2) else (0, (nI (100 * i)), (sX7_isKept g1 u1 rv1 g u rv (nI (100 * i)) x).2.1, (sX7_isKept g1 u1 rv1 g u rv (nI (100 * i)) x).2.2.1, (sX7_isKept g1 u1 rv1 g u rv (nI (100 * i)) x).2.2.2)) := rfl
    have eR : lp_X8_leastLimit_28 q tx f ft dy kp ik jb m x (d + 1) i q1 jb1 ft1 = ((fun (z_2 : Int32 × (Nat → Int32) × (Nat → Int32) × (Nat → Int32)) => (if (z_2.2.2.2 3) = (f 3) then ((nI (100 * i)), z_2.2.1, z_2.2.2.2, z_2.2.2.1) else (lp_X8_leastLimit_28 q tx f ft dy kp ik jb m x d (i + 1) z_2.2.1 z_2.2.2.1 z_2.2.2.2))) (sX8_runOn q1 jb1 (upd (sX8_copyState 0 0 f ft1) 10 (nI (100 * i))) x m)) := rfl
    rw [eC, eR]
    generalize sX8_runOn q1 jb1 (upd (sX8_copyState 0 0 f ft1) 10 (nI (100 * i))) x m = z2 at k1 k3 ⊢
    generalize sX7_isKept g1 u1 rv1 g u rv (nI (100 * i)) x = y2 at k1 k2 ⊢
    dsimp only
    rw [k1]
    by_cases h : z2.2.2.2 3 = f 3
    · rw [if_pos h, if_neg (by decide), if_pos h]
      exact ⟨rfl, rfl, k2, k3⟩
    · rw [if_neg h, if_pos rfl, if_neg h]
      obtain ⟨r1, r2, r3, r4⟩ := least_loop hB sr ok hx d (i + 1) y2.2.1 y2.2.2.1 y2.2.2.2 z2.2.1 z2.2.2.1 z2.2.2.2 (by omega) k2
      exact ⟨r1, r2, r3, k3.trans r4⟩
theorem op_leastLimit (hB : B ≤ 99000) (n0 : N0 rv4) (sr : SM f g u rv) (ok : OKs B m f) (x : Int32) :
    EQOP 1 (sX7_leastLimit g4 u4 rv4 g u rv x).1 (sX7_leastLimit g4 u4 rv4 g u rv x).2.1 ((sX8_leastLimit q tx f ft dy kp ik jb m x).2.1 0) (sX8_leastLimit q tx f ft dy kp ik jb m x).1 ∧ N0 (sX7_leastLimit g4 u4 rv4 g u rv x).2.2.2.2 ∧ KR q (sX8_leastLimit q tx f ft dy kp ik jb m x).2.1 := by
  by_cases hA : sX8_in x.toInt64 1 60 = 0
  · have eC : sX7_leastLimit g4 u4 rv4 g u rv x = (1, 0, g4, u4, rv4) := if_pos ((pass_iff x).mpr hA)
    have eR : sX8_leastLimit q tx f ft dy kp ik jb m x = (0, upd q 0 1, ft, jb) := if_pos hA
    rw [eC, eR]
    dsimp only
    exact ⟨⟨pk_us, fun h => absurd h (by decide)⟩, n0, KR.one q 1⟩
  · have hA' : ¬ sX5_canPass x = 0 := fun h => hA ((pass_iff x).mp h)
    have hb : 1 ≤ x.toInt ∧ x.toInt ≤ 60 := lv_at0 (fun h => hA ((in32 (a := 1) (b := 60) rfl rfl).mpr h))
    have hn : x.toNatClampNeg ≤ 60 := by rw [tc_n]; omega
    have eC : sX7_leastLimit g4 u4 rv4 g u rv x = lp_X7_leastLimit_19 g4 u4 rv4 g u rv x 100 (100 * 0) g4 u4 rv4 := if_neg hA'
    have eR : sX8_leastLimit q tx f ft dy kp ik jb m x = lp_X8_leastLimit_28 q tx f ft dy kp ik jb m x 100 0 (upd q 0 0) jb ft := if_neg hA
    obtain ⟨r1, r2, r3, r4⟩ := least_loop (g4 := g4) (u4 := u4) (rv4 := rv4) (q := q) (tx := tx) (ft := ft) (dy := dy) (kp := kp) (ik := ik) (jb := jb) hB sr ok hn 100 0 g4 u4 rv4 (upd q 0 0) jb ft rfl n0
    rw [eC, eR]
    generalize lp_X7_leastLimit_19 g4 u4 rv4 g u rv x 100 (100 * 0) g4 u4 rv4 = y1 at r1 r2 r3 ⊢
    generalize lp_X8_leastLimit_28 q tx f ft dy kp ik jb m x 100 0 (upd q 0 0) jb ft = z1 at r2 r4 ⊢
    exact ⟨⟨by rw [r1, r4 0 (by decide)]; exact pk_us, fun _ => r2⟩, r3, KR.qk r4⟩
theorem shut_eq (hB : B ≤ 99000) (n0 : N0 rv4) (sr : SM f g u rv) (ok : OKs B m f) {i : Nat} (hi : i < m) (q1 jb1 : Nat → Int32) : (sX7_warmthIfShut g4 u4 rv4 g u rv (nI i)).1 = sX8_of (sX8_runOn q1 jb1 (sX8_lay (sX8_copyState 0 0 f ft) i 4 0) 15 m).2.2.2 i 3 - sX8_of (sX8_runOn q1 jb1 (sX8_lay (sX8_copyState 0 0 f ft) i 4 0) 15 m).2.2.2 i 2 ∧ N0 (sX7_warmthIfShut g4 u4 rv4 g u rv (nI i)).2.2.2 ∧ QK q1 (sX8_runOn q1 jb1 (sX8_lay (sX8_copyState 0 0 f ft) i 4 0) 15 m).2.1 := by
  have hi6 : i < 6 := Nat.lt_of_lt_of_le hi ok.1
  obtain ⟨t1, t2, t3⟩ := tr_start (g4 := g4) (u4 := u4) (ft := ft) n0 sr ok
  have eZ : sX7_warmthIfShut g4 u4 rv4 g u rv (nI i) = sX7_warmthIfShut_z_1 g4 u4 rv4 g u rv (nI i) (sX5_copyFrom g4 u4 rv4 g u rv) := rfl
  rw [eZ]
  generalize sX5_copyFrom g4 u4 rv4 g u rv = z1 at t1 ⊢
  generalize sX8_copyState 0 0 f ft = F at t1 t2 t3 ⊢
  have en : (nI i).toNatClampNeg = i := by
    rw [tc_n, nI_toInt (by omega)]; omega
  have hR : ∀ (B2 : Nat) (F2 : Nat → Int32), OKs B2 m F2 → ¬ sX8_isRoom F2 (nI i) = 0 := fun B2 F2 o2 h => (isr_iff o2 (nI i)).mp h (by
    rw [nI_toInt (by omega)]; omega)
  have eD : sX5_moveDoor z1.1 z1.2.1 z1.2.2 (nI i) 0 = (1, updR z1.2.2 i (upd (z1.2.2 i) 5 0)) := by
    have := roomAt_s t1 t2 (hR _ _ t2)
    rw [en] at this
    exact oe_s this
  have s1 : SM (sX8_lay F i 4 0) z1.1 z1.2.1 (updR z1.2.2 i (upd (z1.2.2 i) 5 0)) := sm_room t1 hi6 (w := 4) (by decide) 0
  have s2 := ok_door t2 hi6 (v := 0) (Or.inl rfl)
  have hP : sX5_passMinutes z1.1 z1.2.1 (updR z1.2.2 i (upd (z1.2.2 i) 5 0)) 15 = (1, (cit z1.2.1 15 (z1.1, (updR z1.2.2 i (upd (z1.2.2 i) 5 0)))).1, (cit z1.2.1 15 (z1.1, (updR z1.2.2 i (upd (z1.2.2 i) 5 0)))).2) := (if_neg (by decide)).trans (pm_cit 15 0 z1.1 (updR z1.2.2 i (upd (z1.2.2 i) 5 0)))
  have hRn : sX8_runOn q1 jb1 (sX8_lay F i 4 0) 15 m = ((mit m 15 (q1, jb1, (sX8_lay F i 4 0))).2.2 5 - (sX8_lay F i 4 0) 5, (mit m 15 (q1, jb1, (sX8_lay F i 4 0))).1, (mit m 15 (q1, jb1, (sX8_lay F i 4 0))).2.1, (mit m 15 (q1, jb1, (sX8_lay F i 4 0))).2.2) := rn_mit 15 0 q1 jb1 (sX8_lay F i 4 0)
  obtain ⟨i1, i2, i3⟩ := it_eq 15 B z1.1 (updR z1.2.2 i (upd (z1.2.2 i) 5 0)) q1 jb1 (sX8_lay F i 4 0) (by omega) s1 s2
  have iq := mit_q (m := m) 15 q1 jb1 (sX8_lay F i 4 0)
  unfold sX7_warmthIfShut_z_1
  rw [eD]
  unfold sX7_warmthIfShut_z_2
  dsimp only
  rw [hP, hRn]
  generalize mit m 15 (q1, jb1, (sX8_lay F i 4 0)) = z3 at i1 i2 i3 iq ⊢
  generalize cit z1.2.1 15 (z1.1, (updR z1.2.2 i (upd (z1.2.2 i) 5 0))) = y3 at i1 ⊢
  unfold sX7_warmthIfShut_z_3
  dsimp only
  have hA := roomAt_s i1 i2 (hR _ _ i2)
  rw [en] at hA
  rw [oe_s hA]
  refine ⟨?_, i1.2.2.1, iq⟩
  show y3.2 i 4 - y3.2 i 3 = z3.2.2 (16 + 8 * i + 3) - z3.2.2 (16 + 8 * i + 2)
  rw [show y3.2 i 4 = z3.2.2 (16 + 8 * i + 3) from i1.2.2.2 i 3 hi6 (by decide), show y3.2 i 3 = z3.2.2 (16 + 8 * i + 2) from i1.2.2.2 i 2 hi6 (by decide)]
theorem best_loop (hB : B ≤ 99000) (sr : SM f g u rv) (ok : OKs B m f) : ∀ (d i : Nat) (w : Option Nat) (lw lo : Int32) (g1 u1 : Nat → Int32) (rv1 : Nat → Nat → Int32) (q1 jb1 ft1 : Nat → Int32), i + d = 6 → N0 rv1 → (∀ k, w = some k → k < 6 ∧ lw = lo) →
    (lp_X7_bestShut_6 g4 u4 rv4 g u rv d i (ob w) lw g1 u1 rv1).1 = ob (lp_X8_bestShut_11 q tx f ft dy kp ik jb m (m - i) i w lo q1 jb1 ft1).1 ∧ N0 (lp_X7_bestShut_6 g4 u4 rv4 g u rv d i (ob w) lw g1 u1 rv1).2.2.2 ∧ QK q1 (lp_X8_bestShut_11 q tx f ft dy kp ik jb m (m - i) i w lo q1 jb1 ft1).2.1
  | 0, i, w, lw, lo, g1, u1, rv1, q1, jb1, ft1, hd, n1, hw => by
    have hm := ok.1
    rw [show m - i = 0 by omega]
    exact ⟨rfl, n1, fun _ _ => rfl⟩
  | d + 1, i, w, lw, lo, g1, u1, rv1, q1, jb1, ft1, hd, n1, hw => by
    have hm := ok.1
    have eC : lp_X7_bestShut_6 g4 u4 rv4 g u rv (d + 1) i (ob w) lw g1 u1 rv1 = (oe (sX5_roomAt g u rv (nI i)) (lp_X7_bestShut_6 g4 u4 rv4 g u rv d (i + 1) (ob w) lw g1 u1 rv1) (fun k_2 => (if ((rv k_2) 5) = 0 then (lp_X7_bestShut_6 g4 u4 rv4 g u rv d (i + 1) (ob w) lw g1 u1 rv1) else ((fun (z_3 : Int32 × (Nat → Int32) × (Nat → Int32) × (Nat → Nat → Int32)) => (if (ob w) = (-1) then (lp_X7_bestShut_6 g4 u4 rv4 g u rv d (i + 1) (nI i) z_3.1 z_3.2.1 z_3.2.2.1 z_3.2.2.2) else (if lw ≤ z_3.1 then (lp_X7_bestShut_6 g4 u4 rv4 g u rv d (i + 1) (ob w) lw z_3.2.1 z_3.2.2.1 z_3.2.2.2) else (lp_X7_bestShut_6 g4 u4 rv4 g u rv d (i + 1) (nI i) z_3.1 z_3.2.1 z_3.2.2.1 z_3.2.2.2)))) (sX7_warmthIfShut g1 u1 rv1 g u rv (nI i)))))) := rfl
    have en : (nI i).toNatClampNeg = i := by
      rw [tc_n, nI_toInt (by omega)]; omega
    rw [eC]
    by_cases h : i < m
    · have hR : ¬ sX8_isRoom f (nI i) = 0 := fun h => (isr_iff ok (nI i)).mp h (by
        rw [nI_toInt (by omega)]; omega)
      have hA := roomAt_s sr ok hR
      rw [en] at hA
      have e5 : rv i 5 = f (16 + 8 * i + 4) := sr.2.2.2 i 4 (by omega) (by decide)
      rw [oe_s hA, show m - i = (m - (i + 1)) + 1 by omega, e5]
      have eR : lp_X8_bestShut_11 q tx f ft dy kp ik jb m (m - (i + 1) + 1) i w lo q1 jb1 ft1 = (if f (16 + 8 * i + 4) = 1 then ((fun (z_3 : Int32 × (Nat → Int32) × (Nat → Int32) × (Nat → Int32)) => (oe w (lp_X8_bestShut_11 q tx f ft dy kp ik jb m (m - (i + 1)) (i + 1) (some i) ((sX8_of z_3.2.2.2 i 3) - (sX8_of z_3.2.2.2 i 2)) z_3.2.1 z_3.2.2.1 z_3.2.2.2) (fun k_4 => (if lo ≤ ((sX8_of z_3.2.2.2 i 3) - (sX8_of z_3.2.2.2 i 2)) then (lp_X8_bestShut_11 q tx f ft dy kp ik jb m (m - (i + 1)) (i + 1) (some k_4) lo z_3.2.1 z_3.2.2.1 z_3.2.2.2) else (lp_X8_bestShut_11 q tx f ft dy kp ik jb m (m - (i + 1)) (i + 1) (some i) ((sX8_of z_3.2.2.2 i 3) - (sX8_of z_3.2.2.2 i 2)) z_3.2.1 z_3.2.2.1 z_3.2.2.2))))) (sX8_runOn q1 jb1 (sX8_lay (sX8_copyState 0 0 f ft1) i 4 0) 15 m)) else (lp_X8_bestShut_11 q tx f ft dy kp ik jb m (m - (i + 1)) (i + 1) w lo q1 jb1 ft1)) := rfl
      rw [eR]
      rcases (ok.2.2.2.2.2.2.2.2.2.2 i (by omega)).2.2.1 with z | z
      · rw [z, if_pos rfl, if_neg (by decide)]
        exact best_loop hB sr ok d (i + 1) w lw lo g1 u1 rv1 q1 jb1 ft1 (by omega) n1 hw
      · rw [z, if_neg (by decide), if_pos rfl]
        obtain ⟨k1, k2, k3⟩ := shut_eq (g4 := g1) (u4 := u1) (ft := ft1) hB n1 sr ok h q1 jb1
        generalize sX8_runOn q1 jb1 (sX8_lay (sX8_copyState 0 0 f ft1) i 4 0) 15 m = z3 at k1 k3 ⊢
        generalize sX7_warmthIfShut g1 u1 rv1 g u rv (nI i) = y3 at k1 k2 ⊢
        dsimp only
        rw [← k1]
        have si : ∀ k, some i = some k → k < 6 ∧ y3.1 = y3.1 := fun k hk => by
          cases hk
          exact ⟨by omega, rfl⟩
        rcases w with _ | k
        · rw [if_pos (show ob none = -1 from rfl)]
          obtain ⟨r1, r2, r3⟩ := best_loop hB sr ok d (i + 1) (some i) y3.1 y3.1 y3.2.1 y3.2.2.1 y3.2.2.2 z3.2.1 z3.2.2.1 z3.2.2.2 (by omega) k2 si
          exact ⟨r1, r2, k3.trans r3⟩
        · obtain ⟨hk6, hl⟩ := hw k rfl
          have hne : ¬ ob (some k) = -1 := nI_nm1 (by omega)
          subst hl
          rw [if_neg hne]
          show (if lw ≤ y3.1 then lp_X7_bestShut_6 g4 u4 rv4 g u rv d (i + 1) (ob (some k)) lw y3.2.1 y3.2.2.1 y3.2.2.2 else lp_X7_bestShut_6 g4 u4 rv4 g u rv d (i + 1) (ob (some i)) y3.1 y3.2.1 y3.2.2.1 y3.2.2.2).1 = ob (if lw ≤ y3.1 then lp_X8_bestShut_11 q tx f ft dy kp ik jb m (m - (i + 1)) (i + 1) (some k) lw z3.2.1 z3.2.2.1 z3.2.2.2 else lp_X8_bestShut_11 q tx f ft dy kp ik jb m (m - (i + 1)) (i + 1) (some i) y3.1 z3.2.1 z3.2.2.1 z3.2.2.2).1 ∧ N0 (if lw ≤ y3.1 then lp_X7_bestShut_6 g4 u4 rv4 g u rv d (i + 1) (ob (some k)) lw y3.2.1 y3.2.2.1 y3.2.2.2 else lp_X7_bestShut_6 g4 u4 rv4 g u rv d (i + 1) (ob (some i)) y3.1 y3.2.1 y3.2.2.1 y3.2.2.2).2.2.2 ∧ QK q1 (if lw ≤ y3.1 then lp_X8_bestShut_11 q tx f ft dy kp ik jb m (m - (i + 1)) (i + 1) (some k) lw z3.2.1 z3.2.2.1 z3.2.2.2 else lp_X8_bestShut_11 q tx f ft dy kp ik jb m (m - (i + 1)) (i + 1) (some i) y3.1 z3.2.1 z3.2.2.1 z3.2.2.2).2.1
          by_cases hc : lw ≤ y3.1
          · rw [if_pos hc, if_pos hc]
            obtain ⟨r1, r2, r3⟩ := best_loop hB sr ok d (i + 1) (some k) lw lw y3.2.1 y3.2.2.1 y3.2.2.2 z3.2.1 z3.2.2.1 z3.2.2.2 (by omega) k2 hw
            exact ⟨r1, r2, k3.trans r3⟩
          · rw [if_neg hc, if_neg hc]
            obtain ⟨r1, r2, r3⟩ := best_loop hB sr ok d (i + 1) (some i) y3.1 y3.1 y3.2.1 y3.2.2.1 y3.2.2.2 z3.2.1 z3.2.2.1 z3.2.2.2 (by omega) k2 si
            exact ⟨r1, r2, k3.trans r3⟩
    · have hR : sX8_isRoom f (nI i) = 0 := (isr_iff ok (nI i)).mpr (by
        rw [nI_toInt (by omega)]; omega)
      rw [oe_n (roomAt_n sr ok hR)]
      have e0 : m - i = 0 := by omega
      have e1 : m - (i + 1) = 0 := by omega
      have ih := best_loop hB sr ok d (i + 1) w lw lo g1 u1 rv1 q1 jb1 ft1 (by omega) n1 hw
      rw [e1] at ih
      rw [e0]
      exact ih
theorem op_best (hB : B ≤ 99000) (n0 : N0 rv4) (sr : SM f g u rv) (ok : OKs B m f) : (sX7_bestShut g4 u4 rv4 g u rv).1 = ob (sX8_bestShut q tx f ft dy kp ik jb m).1 ∧ (sX8_bestShut q tx f ft dy kp ik jb m).2.1 0 = 0 ∧ N0 (sX7_bestShut g4 u4 rv4 g u rv).2.2.2 ∧ KR q (sX8_bestShut q tx f ft dy kp ik jb m).2.1 := by
  obtain ⟨r1, r2, r3⟩ := best_loop (g4 := g4) (u4 := u4) (rv4 := rv4) (q := q) (tx := tx) (ft := ft) (dy := dy) (kp := kp) (ik := ik) (jb := jb) hB sr ok 6 0 none 0 0 g4 u4 rv4 (upd q 0 0) jb ft rfl n0 (fun k hk => by cases hk)
  have eC : sX7_bestShut g4 u4 rv4 g u rv = lp_X7_bestShut_6 g4 u4 rv4 g u rv 6 0 (ob none) 0 g4 u4 rv4 := rfl
  have eR : sX8_bestShut q tx f ft dy kp ik jb m = lp_X8_bestShut_11 q tx f ft dy kp ik jb m (m - 0) 0 none 0 (upd q 0 0) jb ft := rfl
  rw [eC, eR]
  exact ⟨r1, (r3 0 (by decide)).trans pk_us, r2, KR.qk r3⟩
end P13
