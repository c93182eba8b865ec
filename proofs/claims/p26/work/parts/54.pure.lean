/-! PURE: a room's minute is the same on both sides -/
def RESM (f M : Nat → Int32) (i : Nat) (T Fr L c b w l : Int32) : Prop :=
  (∀ x, x < 6 → M x = f x) ∧ (∀ x, 10 ≤ x → (x < 16 + 8 * i ∨ 16 + 8 * i + 8 ≤ x) → M x = f x) ∧ M (16 + 8 * i + 0) = f (16 + 8 * i + 0) ∧ M (16 + 8 * i + 1) = f (16 + 8 * i + 1) ∧ M (16 + 8 * i + 2) = f (16 + 8 * i + 2) ∧ M (16 + 8 * i + 3) = T ∧ M (16 + 8 * i + 4) = f (16 + 8 * i + 4) ∧ M (16 + 8 * i + 5) = Fr ∧ M (16 + 8 * i + 6) = L ∧ M (16 + 8 * i + 7) = f (16 + 8 * i + 7) + c ∧ M 6 = f 6 + b ∧ M 7 = f 7 + w ∧ M 8 = f 8 + l ∧ M 9 = f 9 + (if T < f (16 + 8 * i + 2) then 0 else 1)
theorem m_un (f : Nat → Int32) (i : Nat) (x1 by5 c w l : Int32) : RESM f (MU f i x1 by5 c w l) i (sX8_clamp (f (16 + 8 * i + 3) + by5 + (if x1 = 0 then 0 else 4)) (-400) 400) (sX8_clamp (f (16 + 8 * i + 5) + c + (if x1 = 0 then 0 else 2)) 0 100) (f (16 + 8 * i + 6)) c 0 w l := by
  unfold MU
  rw [finM_eq]
  refine ⟨fun x hx => ?_, fun x h1 h2 => ?_, ?_, ?_, ?_, ?_, ?_, ?_, ?_, ?_, ?_, ?_, ?_, ?_⟩ <;> simp (disch := omega) only [sX8_lay, sX8_of, pk_un, pk_us]
theorem m_hot (f : Nat → Int32) (i : Nat) (x1 lf lf' b w l : Int32) (hlf : lf = lf') : RESM f (finM (sX8_lay (F3H f i x1 lf) i 7 (sX8_of (F3H f i x1 lf) i 7 + 0)) i b w l) i (sX8_clamp (f (16 + 8 * i + 3) + 6 + (if x1 = 0 then 0 else 4)) (-400) 400) (sX8_clamp (f (16 + 8 * i + 5) - 10) 0 100) (if sX8_clamp (f (16 + 8 * i + 5) - 10) 0 100 = 0 then 0 else lf' - 1) 0 b w l := by
  subst hlf
  rw [finM_eq]
  unfold F3H F2H F1H
  refine ⟨fun x hx => ?_, fun x h1 h2 => ?_, ?_, ?_, ?_, ?_, ?_, ?_, ?_, ?_, ?_, ?_, ?_, ?_⟩ <;> simp (disch := omega) only [sX8_lay, sX8_of, pk_un, pk_us]
/-- what both sides come to -/
def ROOMEQ (g r R G f M : Nat → Int32) (i : Nat) : Prop :=
  (∀ w, w < 8 → R (1 + w) = M (16 + 8 * i + w)) ∧ R 0 = r 0 ∧ (∀ k, 2 ≤ k → k ≤ 9 → G k = M k) ∧ G 1 = g 1 ∧ (∀ x, x < 6 → M x = f x) ∧ (∀ x, 10 ≤ x → (x < 16 + 8 * i ∨ 16 + 8 * i + 8 ≤ x) → M x = f x) ∧ (0 ≤ (M (16 + 8 * i + 5)).toInt ∧ (M (16 + 8 * i + 5)).toInt ≤ 100) ∧ M (16 + 8 * i + 0) = f (16 + 8 * i + 0) ∧ M (16 + 8 * i + 4) = f (16 + 8 * i + 4) ∧ M (16 + 8 * i + 2) = f (16 + 8 * i + 2) ∧ (-400 ≤ (M (16 + 8 * i + 3)).toInt ∧ (M (16 + 8 * i + 3)).toInt ≤ 400)
theorem eight {P : Nat → Prop} (h0 : P 0) (h1 : P 1) (h2 : P 2) (h3 : P 3) (h4 : P 4) (h5 : P 5) (h6 : P 6) (h7 : P 7) {w : Nat} (hw : w < 8) : P w := by
  rcases (show w = 0 ∨ w = 1 ∨ w = 2 ∨ w = 3 ∨ w = 4 ∨ w = 5 ∨ w = 6 ∨ w = 7 by omega) with rfl | rfl | rfl | rfl | rfl | rfl | rfl | rfl
  · exact h0
  · exact h1
  · exact h2
  · exact h3
  · exact h4
  · exact h5
  · exact h6
  · exact h7
theorem both {g r R G f M : Nat → Int32} {i : Nat} {T Fr L c b w l : Int32} (hr : ∀ w, w < 8 → r (1 + w) = f (16 + 8 * i + w)) (hg : ∀ k, 2 ≤ k → k ≤ 9 → g k = f k) (h1 : RES r g R G T Fr L c b) (h2 : RESM f M i T Fr L c b w l) (hw : (if r 9 = 4 then 1 else 0) = w) (hl : (if r 9 = 6 then 1 else 0) = l) (hF : 0 ≤ Fr.toInt ∧ Fr.toInt ≤ 100) (hT : -400 ≤ T.toInt ∧ T.toInt ≤ 400) (hi : i < 6) : ROOMEQ g r R G f M i := by
  obtain ⟨a0, a1, a2, a3, a4, a5, a6, a7, a8, b1, b2, b3, b4, b5, b6, b7, b8, b9⟩ := h1
  obtain ⟨m1, m2, c0, c1, c2, c3, c4, c5, c6, c7, d6, d7, d8, d9⟩ := h2
  refine ⟨fun w hw => ?_, a0, fun k h1 h2 => ?_, b1, m1, m2, by rw [c5]; exact hF, c0, c4, c2, by rw [c3]; exact hT⟩
  · refine eight (P := fun w => R (1 + w) = M (16 + 8 * i + w)) ?_ ?_ ?_ ?_ ?_ ?_ ?_ ?_ hw
    · exact a1.trans ((hr 0 (by decide)).trans c0.symm)
    · exact a2.trans ((hr 1 (by decide)).trans c1.symm)
    · exact a3.trans ((hr 2 (by decide)).trans c2.symm)
    · exact a4.trans c3.symm
    · exact a5.trans ((hr 4 (by decide)).trans c4.symm)
    · exact a6.trans c5.symm
    · exact a7.trans c6.symm
    · refine a8.trans (Eq.trans ?_ c7.symm)
      rw [show r 8 = f (16 + 8 * i + 7) from hr 7 (by decide)]
  · have e := hg k h1 h2
    rcases (show k = 2 ∨ k = 3 ∨ k = 4 ∨ k = 5 ∨ k = 6 ∨ k = 7 ∨ k = 8 ∨ k = 9 by omega) with rfl | rfl | rfl | rfl | rfl | rfl | rfl | rfl
    · exact b2.trans (e.trans (m1 2 (by decide)).symm)
    · exact b3.trans (e.trans (m1 3 (by decide)).symm)
    · exact b4.trans (e.trans (m1 4 (by decide)).symm)
    · exact b5.trans (e.trans (m1 5 (by decide)).symm)
    · rw [b6, d6, e]
    · rw [b7, d7, e, hw]
    · rw [b8, d8, e, hl]
    · rw [b9, d9, e, show r 3 = f (16 + 8 * i + 2) from hr 2 (by decide)]
theorem room_eq {g u r f jb : Nat → Int32} {i : Nat} (hi : i < 6) (hr : ∀ w, w < 8 → r (1 + w) = f (16 + 8 * i + w)) (h9 : r 9 = jb i) (hp : cod7 (jb i)) (hz : zb (f (16 + 8 * i + 4))) (h0 : 0 ≤ (f (16 + 8 * i + 5)).toInt) (h1 : (f (16 + 8 * i + 5)).toInt ≤ 100) (hg : ∀ k, 2 ≤ k → k ≤ 9 → g k = f k) (hu : u 5 = f 15) : ROOMEQ g r (cstep g u r).2 (cstep g u r).1 f (sX8_roomOn jb f i) i := by
  have e4 : r 4 = f (16 + 8 * i + 3) := hr 3 (by decide)
  have e5 : r 5 = f (16 + 8 * i + 4) := hr 4 (by decide)
  have e6 : r 6 = f (16 + 8 * i + 5) := hr 5 (by decide)
  have e7 : r 7 = f (16 + 8 * i + 6) := hr 6 (by decide)
  have hx : ∀ a b : Int32, (if (if sX8_of f i 4 = 1 then 1 else 0 : Int32) = 0 then a else b) = (if r 5 = 0 then a else b) := by
    intro a b
    rw [e5]
    unfold sX8_of
    rcases hz with q | q <;> rw [q]
    · rw [if_neg (show ¬ (0 : Int32) = 1 by decide)]
    · rw [if_pos (show (1 : Int32) = 1 from rfl)]
  have hu0 := @c_unhot g u r
  have hh0 := @c_hot g u r
  rw [e6] at hu0 hh0
  have hw : (if r 9 = 4 then 1 else 0 : Int32) = (if jb i = 4 then 1 else 0) := by rw [h9]
  have hl : (if r 9 = 6 then 1 else 0 : Int32) = (if jb i = 6 then 1 else 0) := by rw [h9]
  have COOL : (jb i = 1 ∨ jb i = 3) → ROOMEQ g r (cstep g u r).2 (cstep g u r).1 f (sX8_roomOn jb f i) i := by
    intro q
    have c0 : hot (r 9) = 0 := by rw [h9]; rcases q with q | q <;> rw [q] <;> decide
    have c1 : cold (r 9) = 1 := by rw [h9]; rcases q with q | q <;> rw [q] <;> decide
    have a := hu0 c0 h0 h1
    rw [c1] at a
    rw [mu_cool jb f i q]
    have b := m_un f i (if sX8_of f i 4 = 1 then 1 else 0) (sX8_of f i 5 / 20 - 8) 1 (if jb i = 4 then 1 else 0) (if jb i = 6 then 1 else 0)
    rw [hx, hx, ← e4, ← e7] at b
    exact both hr hg a b hw hl (clamp_b _) (clamp_T _) hi
  have IDLE : (jb i = 4 ∨ jb i = 6 ∨ jb i = 7) → ROOMEQ g r (cstep g u r).2 (cstep g u r).1 f (sX8_roomOn jb f i) i := by
    intro q
    have c0 : hot (r 9) = 0 := by rw [h9]; rcases q with q | q | q <;> rw [q] <;> decide
    have c1 : cold (r 9) = 0 := by rw [h9]; rcases q with q | q | q <;> rw [q] <;> decide
    have a := hu0 c0 h0 h1
    rw [c1] at a
    rw [mu_idle jb f i q]
    have b := m_un f i (if sX8_of f i 4 = 1 then 1 else 0) 1 0 (if jb i = 4 then 1 else 0) (if jb i = 6 then 1 else 0)
    rw [hx, hx, ← e4, ← e7] at b
    exact both hr hg a b hw hl (clamp_b _) (clamp_T _) hi
  have HOT : ∀ lf lf' bb : Int32, lf = lf' → (¬ hot (jb i) = 0) → (if jb i = 0 then r 7 else u 5) = lf' → (if jb i = 0 then 0 else 1 : Int32) = bb → sX8_roomOn jb f i = finM (sX8_lay (F3H f i (if sX8_of f i 4 = 1 then 1 else 0) lf) i 7 (sX8_of (F3H f i (if sX8_of f i 4 = 1 then 1 else 0) lf) i 7 + 0)) i bb (if jb i = 4 then 1 else 0) (if jb i = 6 then 1 else 0) → ROOMEQ g r (cstep g u r).2 (cstep g u r).1 f (sX8_roomOn jb f i) i := by
    intro lf lf' bb hlf c0 c1 c2 e
    have a := hh0 (by rw [h9]; exact c0) h0 h1
    rw [h9, c1, c2] at a
    rw [e]
    have b := m_hot f i (if sX8_of f i 4 = 1 then 1 else 0) lf lf' bb (if jb i = 4 then 1 else 0) (if jb i = 6 then 1 else 0) hlf
    rw [hx, ← e4] at b
    exact both hr hg a b hw hl (clamp_b _) (clamp_T _) hi
  have BEG : (jb i = 2 ∨ jb i = 5) → ROOMEQ g r (cstep g u r).2 (cstep g u r).1 f (sX8_roomOn jb f i) i := by
    intro q
    have n0 : ¬ jb i = 0 := fun z => by rcases q with q | q <;> rw [q] at z <;> exact absurd z (by decide)
    refine HOT _ (u 5) 1 ?_ (by rcases q with q | q <;> rw [q] <;> decide) (if_neg n0) (if_neg n0) (mh_b jb f i q)
    unfold F1H sX8_lay
    rw [pk_un (by omega), hu]
  rcases hp with q | q | q | q | q | q | q | q
  · refine HOT _ (r 7) 0 ?_ (by rw [q]; decide) (if_pos q) (if_pos q) (mh_0 jb f i q)
    unfold F1H sX8_lay sX8_of
    rw [pk_un (by omega), e7]
  · exact COOL (Or.inl q)
  · exact BEG (Or.inl q)
  · exact COOL (Or.inr q)
  · exact IDLE (Or.inl q)
  · exact BEG (Or.inr q)
  · exact IDLE (Or.inr (Or.inl q))
  · exact IDLE (Or.inr (Or.inr q))
