/-! PURE: the plan, second part -/
section P70b
variable {f : Nat → Int32} {B m : Nat}
theorem mtk_LD (f : Nat → Int32) (i : Nat) : mtk f i (mst f i) = LDj f (mst f i) i := by
  unfold mtk LDj sX8_of
  rcases mst_c f i with h | h | h | h <;> rw [h] <;> rfl
theorem must_pi (ok : OKs B m f) (q jb : Nat → Int32) : ∀ (d i : Nat) (q1 jb1 : Nat → Int32), i + d = m → (∀ j, j < i → jb1 j = mst f j) → (q1 10).toInt = SU f jb1 i → 0 ≤ (q1 10).toInt → (q1 10).toInt + 50 * (oc jb1 i : Int) ≤ 50 * (i : Int) →
    (∀ j, j < m → (lp_X8_must_2 q jb f m d i q1 jb1).2 j = mst f j) ∧ ((lp_X8_must_2 q jb f m d i q1 jb1).1 10).toInt = SU f (lp_X8_must_2 q jb f m d i q1 jb1).2 m ∧ 0 ≤ ((lp_X8_must_2 q jb f m d i q1 jb1).1 10).toInt ∧ ((lp_X8_must_2 q jb f m d i q1 jb1).1 10).toInt + 50 * (oc (lp_X8_must_2 q jb f m d i q1 jb1).2 m : Int) ≤ 50 * (m : Int)
  | 0, i, q1, jb1, hd, hj, hs, h0, hb => by
    have : i = m := by omega
    subst this
    exact ⟨hj, hs, h0, hb⟩
  | d + 1, i, q1, jb1, hd, hj, hs, h0, hb => by
    have hm := ok.1
    have e2 : lp_X8_must_2 q jb f m (d + 1) i q1 jb1 = lp_X8_must_2 q jb f m d (i + 1) (upd q1 10 (q1 10 + mtk f i (mst f i))) (upd jb1 i (mst f i)) := by
      show lp_X8_must_2 q jb f m d (i + 1) (upd q1 10 (q1 10 + mtk f i (upd jb1 i (mst f i) i))) (upd jb1 i (mst f i)) = _
      rw [pk_us]
    rw [e2]
    obtain ⟨b1, b2, b3⟩ := tk_b ok (i := i) (by omega)
    have hoc := oc_le jb1 i
    have eT : (q1 10 + mtk f i (mst f i)).toInt = (q1 10).toInt + (mtk f i (mst f i)).toInt := ia (by omega) (by omega)
    refine must_pi ok q jb d (i + 1) _ _ (by omega) (fun j h1 => ?_) ?_ ?_ ?_
    · by_cases hji : j = i
      · subst hji; exact pk_us
      · rw [pk_un hji]; exact hj j (by omega)
    · show _ = SU f (upd jb1 i (mst f i)) i + (LDj f (upd jb1 i (mst f i) i) i).toInt
      rw [pk_us, pk_us, eT, SU_out (Nat.le_refl _), hs, mtk_LD]
    · rw [pk_us, eT]; omega
    · show _ + 50 * ((oc (upd jb1 i (mst f i)) i + (if upd jb1 i (mst f i) i = 8 then 1 else 0) : Nat) : Int) ≤ _
      rw [oc_out (Nat.le_refl _), pk_us, pk_us, eT]
      by_cases h8 : mst f i = 8
      · rw [if_pos h8]; have := b3 h8; omega
      · rw [if_neg h8]; omega
theorem comp_pi (hB : B ≤ 100000) (ok : OKs B m f) (q jb : Nat → Int32) (z1 : (Nat → Int32) × (Nat → Int32)) : ∀ (d : Nat) (q1 jb1 : Nat → Int32), oc jb1 m ≤ d → PI1 f m q1 jb1 →
    ∃ q2 jb2 : Nat → Int32, lp_X8_find_16 q jb f m z1 (d + 1) (sX8_nextWarm jb1 f m) q1 jb1 = sX8_find_x80 q jb f m z1 q2 jb2 ∧ PI1 f m q2 jb2 ∧ ∀ j, j < m → jb2 j = 8 → sX8_over f j ≤ 0
  | d, q1, jb1, hd, hi => by
    have hm := ok.1
    cases hw : sX8_nextWarm jb1 f m with
    | none => exact ⟨q1, jb1, rfl, hi, mnw_none hw⟩
    | some k =>
      obtain ⟨hk, h8⟩ := mnw_spec hw
      have ho := mnw_pos hw
      have hoc := oc_pos' hk h8
      obtain ⟨d', rfl⟩ : ∃ d', d = d' + 1 := ⟨d - 1, by omega⟩
      have h6 : k < 6 := by omega
      obtain ⟨hl1, hl2⟩ := (ok.2.2.2.2.2.2.2.2.2.2 k h6).1 hk
      have hup := hi.up hB ok hk h8 (L := sX8_of f k 0) (a := 3) (b := 4) (show 0 ≤ (f (16 + 8 * k)).toInt by omega) hl2 rfl rfl (by decide) (by decide) (by decide) (by decide) (fun h => ⟨fun z => absurd h z, fun _ => Or.inr (Or.inl ⟨Or.inl rfl, ho⟩)⟩) (fun h => ⟨fun z => absurd h z, fun _ => Or.inr (Or.inl ⟨Or.inr rfl, ho⟩)⟩)
      have hod := oc_dec (x := (if sX8_fits q1 f (sX8_of f k 0) = 0 then 4 else 3 : Int32)) hk h8 (n8_if (by decide) (by decide))
      obtain ⟨q2, jb2, e1, e2, e3⟩ := comp_pi hB ok q jb z1 d' _ _ (by omega) hup
      exact ⟨q2, jb2, e1, e2, e3⟩
theorem defr_pi (hB : B ≤ 100000) (ok : OKs B m f) (q jb : Nat → Int32) (z1 : (Nat → Int32) × (Nat → Int32)) (q0 jb0 : Nat → Int32) : ∀ (d : Nat) (q1 jb1 : Nat → Int32), oc jb1 m ≤ d → PI1 f m q1 jb1 → (∀ j, j < m → jb1 j = 8 → sX8_over f j ≤ 0) →
    ∃ q2 jb2 : Nat → Int32, lp_X8_find_86 q jb f m z1 q0 jb0 (d + 1) (sX8_nextFrost jb1 f m) q1 jb1 = sX8_find_x147 q jb f m z1 q0 jb0 q2 jb2 ∧ PI1 f m q2 jb2 ∧ (∀ j, j < m → jb2 j = 8 → sX8_over f j ≤ 0) ∧ ∀ j, j < m → jb2 j = 8 → sX8_of f j 5 < f 14
  | d, q1, jb1, hd, hi, ho => by
    have hm := ok.1
    cases hw : sX8_nextFrost jb1 f m with
    | none => exact ⟨q1, jb1, rfl, hi, ho, mnf_none hw⟩
    | some k =>
      obtain ⟨hk, h8⟩ := mnf_spec hw
      have hf := mnf_pos hw
      have hov := ho k hk h8
      have hoc := oc_pos' hk h8
      obtain ⟨d', rfl⟩ : ∃ d', d = d' + 1 := ⟨d - 1, by omega⟩
      obtain ⟨hl1, hl2⟩ := ok.2.2.2.2.2.1
      have hup := hi.up hB ok hk h8 (L := f 13) (a := 5) (b := 6) (by omega) hl2 rfl rfl (by decide) (by decide) (by decide) (by decide) (fun h => ⟨fun z => absurd h z, fun _ => Or.inr (Or.inr ⟨Or.inl rfl, hov, hf⟩)⟩) (fun h => ⟨fun z => absurd h z, fun _ => Or.inr (Or.inr ⟨Or.inr rfl, hov, hf⟩)⟩)
      have hod := oc_dec (x := (if sX8_fits q1 f (f 13) = 0 then 6 else 5 : Int32)) hk h8 (n8_if (by decide) (by decide))
      have hx8 : ¬ (if sX8_fits q1 f (f 13) = 0 then 6 else 5 : Int32) = 8 := n8_if (by decide) (by decide)
      obtain ⟨q2, jb2, e1, e2, e3⟩ := defr_pi hB ok q jb z1 q0 jb0 d' _ _ (by omega) hup (fun j hj hj8 => by
        by_cases hjk : j = k
        · subst hjk; rw [pk_us] at hj8; exact absurd hj8 hx8
        · rw [pk_un hjk] at hj8; exact ho j hj hj8)
      exact ⟨q2, jb2, e1, e2, e3⟩
/-- what a room does, and why -/
def PJ (f : Nat → Int32) (x : Int32) (j : Nat) : Prop := (x = mst f j ∧ ¬ mst f j = 8) ∨ (mst f j = 8 ∧ (x = 3 ∨ x = 4) ∧ ¬ sX8_over f j ≤ 0) ∨ (mst f j = 8 ∧ (x = 5 ∨ x = 6) ∧ sX8_over f j ≤ 0 ∧ ¬ sX8_of f j 5 < f 14) ∨ (mst f j = 8 ∧ x = 7 ∧ sX8_over f j ≤ 0 ∧ sX8_of f j 5 < f 14)
theorem plan_all (hB : B ≤ 100000) (ok : OKs B m f) (q jb : Nat → Int32) : (∀ j, j < m → PJ f ((sX8_find q jb f m).2 j) j) ∧ ((sX8_find q jb f m).1 10).toInt = SU f (sX8_find q jb f m).2 m ∧ 0 ≤ ((sX8_find q jb f m).1 10).toInt ∧ ((sX8_find q jb f m).1 10).toInt ≤ 300 ∧ ((∃ j, j < m ∧ ((sX8_find q jb f m).2 j = 3 ∨ (sX8_find q jb f m).2 j = 5)) → FITS f ((sX8_find q jb f m).1 10).toInt) := by
  have hm := ok.1
  obtain ⟨a1, a2, a3, a4⟩ := must_pi ok (upd q 10 0) jb m 0 (upd q 10 0) jb (Nat.zero_add _) (fun j h => absurd h (Nat.not_lt_zero j)) (by rw [pk_us]; rfl) (by rw [pk_us]; decide) (by rw [pk_us]; show (0 : Int) + 50 * ((0 : Nat) : Int) ≤ 50 * ((0 : Nat) : Int); decide)
  have hz : lp_X8_must_2 (upd q 10 0) jb f m m 0 (upd q 10 0) jb = sX8_must (upd q 10 0) jb f m := rfl
  rw [hz] at a1 a2 a3 a4
  have p1 : PI1 f m (sX8_must (upd q 10 0) jb f m).1 (sX8_must (upd q 10 0) jb f m).2 := by
    refine ⟨fun j hj => ?_, a2, a3, a4, fun hex => ?_⟩
    · rw [a1 j hj]; exact ⟨fun _ => rfl, fun h => Or.inl h⟩
    · obtain ⟨j, hj, h⟩ := hex
      rw [a1 j hj] at h
      rcases mst_c f j with z | z | z | z <;> rw [z] at h <;> exact absurd h (by decide)
  obtain ⟨q2, jb2, b1, b2, b3⟩ := comp_pi hB ok q jb (sX8_must (upd q 10 0) jb f m) 6 _ _ (by have := oc_le (sX8_must (upd q 10 0) jb f m).2 m; omega) p1
  obtain ⟨q3, jb3, c1, c2, c3, c4⟩ := defr_pi hB ok q jb (sX8_must (upd q 10 0) jb f m) q2 jb2 6 q2 jb2 (by have := oc_le jb2 m; omega) b2 b3
  have eM : sX8_find q jb f m = lp_X8_find_149 q jb f m (sX8_must (upd q 10 0) jb f m) q2 jb2 q3 jb3 m 0 jb3 := by
    have h1 : sX8_find q jb f m = lp_X8_find_16 q jb f m (sX8_must (upd q 10 0) jb f m) 7 (sX8_nextWarm (sX8_must (upd q 10 0) jb f m).2 f m) (sX8_must (upd q 10 0) jb f m).1 (sX8_must (upd q 10 0) jb f m).2 := rfl
    rw [h1, b1]
    exact c1
  obtain ⟨d1, d2⟩ := conv_eq (m := m) (f := f) q jb (sX8_must (upd q 10 0) jb f m) q2 jb2 q3 jb3 m 0 jb3 (Nat.zero_add _)
  rw [← eM] at d1 d2
  have d3 : ∀ j, j < m → (sX8_find q jb f m).2 j = pl (jb3 j) := fun j hj => by rw [d2 j hj, if_pos (Nat.zero_le _)]
  obtain ⟨i1, i2, i3, i4, i5⟩ := c2
  rw [d1]
  refine ⟨fun j hj => ?_, ?_, i3, by omega, fun hex => ?_⟩
  · rw [d3 j hj]
    obtain ⟨h1, h2⟩ := i1 j hj
    by_cases h8 : mst f j = 8
    · rcases h2 h8 with z | ⟨z, z2⟩ | ⟨z, z2⟩
      · refine Or.inr (Or.inr (Or.inr ⟨h8, ?_, c3 j hj z, c4 j hj z⟩))
        rw [z]; rfl
      · refine Or.inr (Or.inl ⟨h8, ?_, z2⟩)
        rcases z with z | z <;> rw [z]
        · exact Or.inl rfl
        · exact Or.inr rfl
      · refine Or.inr (Or.inr (Or.inl ⟨h8, ?_, z2⟩))
        rcases z with z | z <;> rw [z]
        · exact Or.inl rfl
        · exact Or.inr rfl
    · refine Or.inl ⟨?_, h8⟩
      rw [h1 h8, pl_n h8]
  · rw [i2]
    refine SU_eq (fun j hj => ?_)
    rw [d3 j hj]
    by_cases h8 : jb3 j = 8
    · rw [h8]; rfl
    · rw [pl_n h8]
  · obtain ⟨j, hj, h⟩ := hex
    rw [d3 j hj] at h
    refine i5 ⟨j, hj, ?_⟩
    by_cases h8 : jb3 j = 8
    · rw [h8] at h; exact absurd h (by decide)
    · rw [pl_n h8] at h; exact h
end P70b
