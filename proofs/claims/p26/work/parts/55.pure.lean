/-! PURE: a minute is the same on both sides -/
section P6
variable {f g u : Nat → Int32} {rv : Nat → Nat → Int32} {B m : Nat}
theorem meas_eq (hB : B ≤ 100000) (sr : SM f g u rv) (ok : OKs B m f) {k t : Int32} (ht : t = k + f 12) (h0 : 0 ≤ k.toInt) (h1 : k.toInt ≤ 300) :
    (∀ x, 2 ≤ x → x ≤ 9 → sX5_takeUnits g u t x = sX8_measure f k x) ∧ sX5_takeUnits g u t 1 + 1 = sX8_measure f k 1 ∧ sX8_measure f k 1 = f 1 + 1 ∧ (∀ x, 10 ≤ x → sX8_measure f k x = f x) ∧ sX8_measure f k 0 = f 0 ∧ (0 ≤ (sX8_measure f k 2).toInt ∧ (sX8_measure f k 2).toInt ≤ 399 * ((f 1).toInt + 1) ∧ (f 5).toInt ≤ (sX8_measure f k 5).toInt ∧ (sX8_measure f k 5).toInt ≤ 399 * ((f 1).toInt + 1)) := by
  have hml := ml_eq sr
  obtain ⟨s1, s2, -, -⟩ := sr
  obtain ⟨-, -, h10, -, h12, -, -, -, hm1, hm2, -⟩ := ok
  have e0 : (0 : Int32).toInt = 0 := rfl
  have g1 := s1 1 (by decide) (by decide)
  have g2 := s1 2 (by decide) (by decide)
  have g3 := s1 3 (by decide) (by decide)
  have g4 := s1 4 (by decide) (by decide)
  have g5 := s1 5 (by decide) (by decide)
  have g6 := s1 6 (by decide) (by decide)
  have g7 := s1 7 (by decide) (by decide)
  have g8 := s1 8 (by decide) (by decide)
  have g9 := s1 9 (by decide) (by decide)
  have u0 : u 0 = f 10 := s2 0 (by decide)
  have eT : t.toInt = k.toInt + (f 12).toInt := by rw [ht]; exact ia (by omega) (by omega)
  have e2 : (f 2 + t).toInt = (f 2).toInt + t.toInt := ia (by omega) (by omega)
  have e5 : (f 5 + t).toInt = (f 5).toInt + t.toInt := ia (by omega) (by omega)
  have hleft : sX5_minutesLeft (upd (upd g 2 (g 2 + t)) 5 (g 5 + t)) u = sX8_minutesLeft f := by
    rw [← hml]
    unfold sX5_minutesLeft
    simp (disch := omega) only [pk_un]
  by_cases hl : sX8_minutesLeft f = 1
  · have eC : sX5_takeUnits g u t = upd (upd (upd (upd g 2 0) 3 (g 3 + (if g 2 + t ≤ u 0 then 0 else 1))) 4 (if g 4 < g 2 + t then g 2 + t else g 4)) 5 (g 5 + t) := by
      unfold sX5_takeUnits
      rw [hleft, if_pos hl]
      rfl
    have eM : sX8_measure f k = upd (upd (upd (upd (upd (upd f 2 (f 2 + t)) 5 (f 5 + t)) 1 (f 1 + 1)) 3 (f 3 + (if f 2 + t ≤ f 10 then 0 else 1))) 4 (if f 2 + t ≤ f 4 then f 4 else f 2 + t)) 2 0 := by
      unfold sX8_measure sX8_measure_j20
      rw [if_pos hl, if_neg (by decide), ← ht]
      unfold sX8_measure_j65 sX8_measure_j87
      rw [← ht]
    rw [eC, eM]
    refine ⟨fun x hx1 hx2 => ?_, ?_, by simp (disch := omega) only [pk_un, pk_us], fun x hx => ?_, by simp (disch := omega) only [pk_un, pk_us], ?_⟩
    · rcases (show x = 2 ∨ x = 3 ∨ x = 4 ∨ x = 5 ∨ x = 6 ∨ x = 7 ∨ x = 8 ∨ x = 9 by omega) with rfl | rfl | rfl | rfl | rfl | rfl | rfl | rfl
      · simp (disch := omega) only [pk_un, pk_us]
      · simp (disch := omega) only [pk_un, pk_us]
        rw [g3, g2, u0]
      · simp (disch := omega) only [pk_un, pk_us]
        rw [g4, g2]
        by_cases h : f 2 + t ≤ f 4
        · rw [if_pos h, if_neg (Int32.not_lt.mpr h)]
        · rw [if_neg h, if_pos (Int32.not_le.mp h)]
      · simp (disch := omega) only [pk_un, pk_us]
        rw [g5]
      · simp (disch := omega) only [pk_un, pk_us]
        exact g6
      · simp (disch := omega) only [pk_un, pk_us]
        exact g7
      · simp (disch := omega) only [pk_un, pk_us]
        exact g8
      · simp (disch := omega) only [pk_un, pk_us]
        exact g9
    · simp (disch := omega) only [pk_un, pk_us]
      rw [g1]
    · simp (disch := omega) only [pk_un]
    · simp (disch := omega) only [pk_un, pk_us]
      omega
  · have eC : sX5_takeUnits g u t = upd (upd g 2 (g 2 + t)) 5 (g 5 + t) := by
      unfold sX5_takeUnits
      rw [hleft, if_neg hl]
    have eM : sX8_measure f k = upd (upd (upd f 2 (f 2 + t)) 5 (f 5 + t)) 1 (f 1 + 1) := by
      unfold sX8_measure sX8_measure_j20
      rw [if_neg hl, if_pos rfl, ← ht]
    rw [eC, eM]
    refine ⟨fun x hx1 hx2 => ?_, ?_, by simp (disch := omega) only [pk_un, pk_us], fun x hx => ?_, by simp (disch := omega) only [pk_un, pk_us], ?_⟩
    · rcases (show x = 2 ∨ x = 3 ∨ x = 4 ∨ x = 5 ∨ x = 6 ∨ x = 7 ∨ x = 8 ∨ x = 9 by omega) with rfl | rfl | rfl | rfl | rfl | rfl | rfl | rfl
      · simp (disch := omega) only [pk_un, pk_us]
        rw [g2]
      · simp (disch := omega) only [pk_un, pk_us]
        exact g3
      · simp (disch := omega) only [pk_un, pk_us]
        exact g4
      · simp (disch := omega) only [pk_un, pk_us]
        rw [g5]
      · simp (disch := omega) only [pk_un, pk_us]
        exact g6
      · simp (disch := omega) only [pk_un, pk_us]
        exact g7
      · simp (disch := omega) only [pk_un, pk_us]
        exact g8
      · simp (disch := omega) only [pk_un, pk_us]
        exact g9
    · simp (disch := omega) only [pk_un, pk_us]
      rw [g1]
    · simp (disch := omega) only [pk_un]
    · simp (disch := omega) only [pk_un, pk_us]
      omega
/-- within the rooms' loop -/
def LPI (m i : Nat) (jb F g1 : Nat → Int32) (rv1 : Nat → Nat → Int32) (f1 : Nat → Int32) : Prop :=
  (∀ k, 2 ≤ k → k ≤ 9 → g1 k = f1 k) ∧ g1 1 + 1 = f1 1 ∧ (∀ j w, j < 6 → w < 8 → rv1 j (1 + w) = f1 (16 + 8 * j + w)) ∧ (∀ j, j < 6 → rv1 j 0 = nI j) ∧ (∀ j, i ≤ j → j < m → rv1 j 9 = jb j) ∧ (∀ x, x < 6 → f1 x = F x) ∧ (∀ x, 10 ≤ x → x < 16 → f1 x = F x) ∧ ∀ j, j < 6 → RO f1 m j
theorem rooms_eq (hm : m ≤ 6) {jz F : Nat → Int32} (hu : u 5 = F 15) (hc : ∀ j, j < m → cod7 (jz j)) (zc : Int32 × (Nat → Nat → Int32)) (z2 q jb f0 : Nat → Int32) (zm : (Nat → Int32) × (Nat → Int32)) (hz : zm.2 = jz) : ∀ (d i : Nat) (g1 : Nat → Int32) (rv1 : Nat → Nat → Int32) (f1 : Nat → Int32), i + d = 6 → LPI m i jz F g1 rv1 f1 →
    ∃ g2 rv2, lp_X5_passMinute_26 g u rv zc z2 d i g1 rv1 = (upd g2 1 (g2 1 + 1), rv2) ∧ LPI m 6 jz F g2 rv2 (lp_X8_minuteOn_15 q jb f0 m zm F (m - i) i f1).2.2
  | 0, i, g1, rv1, f1, hd, h => by
    have : i = 6 := by omega
    subst this
    rw [show m - 6 = 0 by omega]
    exact ⟨g1, rv1, rfl, h⟩
  | d + 1, i, g1, rv1, f1, hd, h => by
    obtain ⟨a1, a2, a3, a4, a5, a6, a7, a8⟩ := h
    have hi6 : i < 6 := by omega
    by_cases hi : i < m
    · rw [show m - i = (m - (i + 1)) + 1 by omega]
      obtain ⟨ro1, -, ro3, ro4, ro5, ro6⟩ := a8 i hi6
      have hth : ¬ sX2_isThere (rv1 i) = 0 := by
        unfold sX2_isThere
        have e : rv1 i 1 = f1 (16 + 8 * i) := a3 i 0 hi6 (by decide)
        have e0 : (0 : Int32).toInt = 0 := rfl
        rw [e, if_neg (by rw [le_i, e0]; have := (ro1 hi).1; omega)]
        decide
      have R := room_eq (g := g1) (u := u) (r := rv1 i) (f := f1) (jb := jz) hi6 (fun w hw => a3 i w hi6 hw) (a5 i (Nat.le_refl _) hi) (hc i hi) ro3 ro4 ro5 a1 (hu.trans (a7 15 (by decide) (by decide)).symm)
      have eC : lp_X5_passMinute_26 g u rv zc z2 (d + 1) i g1 rv1 = lp_X5_passMinute_26 g u rv zc z2 d (i + 1) (cstep g1 u (rv1 i)).1 (updR rv1 i (cstep g1 u (rv1 i)).2) := by
        show (if sX2_isThere (rv1 i) = 0 then _ else lp_X5_passMinute_26 g u rv zc z2 d (i + 1) (cstep g1 u (rv1 i)).1 (updR rv1 i (cstep g1 u (rv1 i)).2)) = _
        rw [if_neg hth]
      have eM : lp_X8_minuteOn_15 q jb f0 m zm F ((m - (i + 1)) + 1) i f1 = lp_X8_minuteOn_15 q jb f0 m zm F (m - (i + 1)) (i + 1) (sX8_roomOn jz f1 i) := by
        rw [← hz]; rfl
      rw [eC, eM]
      obtain ⟨r1, r2, r3, r4, r5, r6, r7, r8, r9, r10, r11⟩ := R
      refine rooms_eq hm hu hc zc z2 q jb f0 zm hz d (i + 1) _ _ _ (by omega) ⟨r3, ?_, fun j w hj hw => ?_, fun j hj => ?_, fun j h1 h2 => ?_, fun x hx => (r5 x hx).trans (a6 x hx), fun x h1 h2 => (r6 x h1 (Or.inl (by omega))).trans (a7 x h1 h2), fun j hj => ?_⟩
      · rw [r4, r5 1 (by decide)]; exact a2
      · by_cases hji : j = i
        · subst hji
          rw [updR_s]; exact r1 w hw
        · rw [updR_n hji, r6 (16 + 8 * j + w) (by omega) (by omega)]
          exact a3 j w hj hw
      · by_cases hji : j = i
        · subst hji
          rw [updR_s, r2]; exact a4 j hj
        · rw [updR_n hji]; exact a4 j hj
      · rw [updR_n (by omega)]
        exact a5 j (by omega) h2
      · by_cases hji : j = i
        · subst hji
          refine ⟨fun hjm => ?_, fun hjm => absurd hjm (by omega), ?_, r7.1, r7.2, fun hjm => ⟨r11, by rw [r10]; exact (ro6 hjm).2⟩⟩
          · have e : sX8_roomOn jz f1 j (16 + 8 * j) = f1 (16 + 8 * j) := r8
            rw [e]; exact ro1 hjm
          · rw [r9]; exact ro3
        · obtain ⟨o1, o2, o3, o4, o5⟩ := a8 j hj
          have e : ∀ w, w < 8 → sX8_roomOn jz f1 i (16 + 8 * j + w) = f1 (16 + 8 * j + w) := fun w hw => r6 (16 + 8 * j + w) (by omega) (by omega)
          have e0 : sX8_roomOn jz f1 i (16 + 8 * j) = f1 (16 + 8 * j) := e 0 (by decide)
          unfold RO
          rw [e0, e 4 (by decide), e 5 (by decide), e 3 (by decide), e 2 (by decide)]
          exact ⟨o1, o2, o3, o4, o5⟩
    · rw [show m - i = 0 by omega]
      have hth : sX2_isThere (rv1 i) = 0 := by
        unfold sX2_isThere
        have e : rv1 i 1 = f1 (16 + 8 * i) := a3 i 0 hi6 (by decide)
        rw [e, (a8 i hi6).2.1 (by omega)]
        rfl
      have eC : lp_X5_passMinute_26 g u rv zc z2 (d + 1) i g1 rv1 = lp_X5_passMinute_26 g u rv zc z2 d (i + 1) g1 rv1 := by
        show (if sX2_isThere (rv1 i) = 0 then lp_X5_passMinute_26 g u rv zc z2 d (i + 1) g1 rv1 else _) = _
        rw [if_pos hth]
      rw [eC]
      have h := rooms_eq hm hu hc zc z2 q jb f0 zm hz d (i + 1) g1 rv1 f1 (by omega) ⟨a1, a2, a3, a4, fun j h1 h2 => absurd h1 (by omega), a6, a7, a8⟩
      rw [show m - (i + 1) = 0 by omega] at h
      exact h
theorem minute_eq (hB : B ≤ 100000) (sr : SM f g u rv) (ok : OKs B m f) (q jb : Nat → Int32) : SM (sX8_minuteOn q jb f m).2.2 (sX5_passMinute g u rv).1 u (sX5_passMinute g u rv).2 ∧ OKs (B + 1) m (sX8_minuteOn q jb f m).2.2 ∧ (f 5).toInt ≤ ((sX8_minuteOn q jb f m).2.2 5).toInt := by
  obtain ⟨p1, p2, p3, p4, p5, p6⟩ := find_eq hB sr ok q jb
  have hu2 : u 2 = f 12 := sr.2.1 2 (by decide)
  obtain ⟨t1, t2, t3, t4, t5, t6⟩ := meas_eq hB sr ok (k := (sX8_find q jb f m).1 10) (t := (sX5_planMinute g u rv).1 + u 2) (by rw [p1, hu2]) (by rw [← p1]; exact p5) (by rw [← p1]; exact p6)
  have eM : sX8_minuteOn q jb f m = lp_X8_minuteOn_15 q jb f m (sX8_find q jb f m) (sX8_measure f ((sX8_find q jb f m).1 10)) m 0 (sX8_measure f ((sX8_find q jb f m).1 10)) := rfl
  have eC : sX5_passMinute g u rv = lp_X5_passMinute_26 g u rv (sX5_planMinute g u rv) (sX5_takeUnits g u ((sX5_planMinute g u rv).1 + u 2)) 6 0 (sX5_takeUnits g u ((sX5_planMinute g u rv).1 + u 2)) (sX5_planMinute g u rv).2 := rfl
  generalize hF : sX8_measure f ((sX8_find q jb f m).1 10) = F at t1 t2 t3 t4 t5 t6 eM
  have hm := ok.1
  obtain ⟨g2, rv2, c1, l1, l2, l3, l4, l5, l6, l7, l8⟩ := rooms_eq (g := g) (u := u) (rv := rv) hm (jz := (sX8_find q jb f m).2) (F := F) (by rw [t4 15 (by decide)]; exact sr.2.1 5 (by decide)) (fun j hj => (p3 j hj).1) (sX5_planMinute g u rv) (sX5_takeUnits g u ((sX5_planMinute g u rv).1 + u 2)) q jb f (sX8_find q jb f m) rfl 6 0 (sX5_takeUnits g u ((sX5_planMinute g u rv).1 + u 2)) (sX5_planMinute g u rv).2 F rfl
    ⟨t1, t2, fun j w hj hw => by rw [p2 j (1 + w) (by omega), sr.2.2.2 j w hj hw, t4 _ (by omega)], fun j hj => by rw [p2 j 0 (by omega)]; exact sr.2.2.1 j hj, fun j _ h2 => (p3 j h2).2, fun x _ => rfl, fun x _ _ => rfl, fun j hj => by
      have o := ok.2.2.2.2.2.2.2.2.2.2 j hj
      unfold RO at o ⊢
      rw [t4 _ (by omega), t4 _ (by omega), t4 _ (by omega), t4 _ (by omega), t4 _ (by omega)]
      exact o⟩
  rw [Nat.sub_zero, ← eM] at l1 l2 l3 l6 l7 l8
  rw [eC, c1]
  obtain ⟨-, k0, k10, k11, k12, k13, k14, k15, k1, k2, -⟩ := ok
  have e1 : (1 : Int32).toInt = 1 := rfl
  have eF1 : (F 1).toInt = (f 1).toInt + 1 := by rw [t3, ia] <;> rw [e1] <;> omega
  refine ⟨⟨fun k h1 h2 => ?_, fun k hk => ?_, l4, l3⟩, ⟨hm, ?_, ?_, ?_, ?_, ?_, ?_, ?_, ?_, ?_, l8⟩, ?_⟩
  · by_cases hk1 : k = 1
    · subst hk1
      show upd g2 1 (g2 1 + 1) 1 = _
      rw [pk_us]; exact l2
    · show upd g2 1 (g2 1 + 1) k = _
      rw [pk_un hk1]; exact l1 k (by omega) h2
  · rw [l7 _ (by omega) (by omega), t4 _ (by omega)]; exact sr.2.1 k hk
  · rw [l6 0 (by decide), t5]; exact k0
  · rw [l7 10 (by decide) (by decide), t4 10 (by decide)]; exact k10
  · rw [l7 11 (by decide) (by decide), t4 11 (by decide)]; exact k11
  · rw [l7 12 (by decide) (by decide), t4 12 (by decide)]; exact k12
  · rw [l7 13 (by decide) (by decide), t4 13 (by decide)]; exact k13
  · rw [l7 14 (by decide) (by decide), t4 14 (by decide)]; exact k14
  · rw [l7 15 (by decide) (by decide), t4 15 (by decide)]; exact k15
  · rw [l6 1 (by decide), eF1]; omega
  · rw [l6 2 (by decide), l6 1 (by decide), l6 5 (by decide), eF1]; omega
  · rw [l6 5 (by decide)]; exact t6.2.2.1
end P6
