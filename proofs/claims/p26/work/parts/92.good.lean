/-! PURE: a store has a room in each state that a turn can come to -/
def GOOD (σ : SG) : Prop := 1 ≤ mF σ.1 ∧ (∀ p, 1 ≤ p → p < σ.2.1 → 1 ≤ mF (σ.2.2.1 p)) ∧ (1 ≤ σ.2.1 → mF (σ.2.2.1 0) = 0 → mF (if σ.2.1 = 1 then σ.1 else σ.2.2.1 1) ≤ 1) ∧ (∀ fs, σ.2.2.2.1 = some fs → 1 ≤ mF fs) ∧ (∀ fs, σ.2.2.2.2 = some fs → 1 ≤ mF fs) ∧ σ.2.1 ≤ 14
theorem good_push {σ : SG} {g : RW} (h : GOOD σ) (hg : 1 ≤ mF g) : GOOD (sPush σ g) := by
  obtain ⟨h1, h2, h3, h4, h5, h6⟩ := h
  refine ⟨hg, ?_, ?_, h4, h5, push_le⟩
  · intro p hp1 hp2
    have hp2 : p < pushC σ.2.1 := hp2
    show 1 ≤ mF (pushR σ.2.1 σ.2.2.1 σ.1 p)
    unfold pushR
    unfold pushC at hp2
    by_cases c : σ.2.1 < 14
    · rw [if_pos c] at hp2 ⊢
      by_cases e : p = σ.2.1
      · rw [if_pos e]; exact h1
      · rw [if_neg e]; exact h2 p hp1 (by omega)
    · rw [if_neg c] at hp2 ⊢
      by_cases e : p = 13
      · rw [if_pos e]; exact h1
      · rw [if_neg e]; exact h2 (p + 1) (by omega) (by omega)
  · intro hc h0
    have h0 : mF (pushR σ.2.1 σ.2.2.1 σ.1 0) = 0 := h0
    show mF (if pushC σ.2.1 = 1 then g else pushR σ.2.1 σ.2.2.1 σ.1 1) ≤ 1
    unfold pushR at h0 ⊢
    unfold pushC
    by_cases c : σ.2.1 < 14
    · rw [if_pos c] at h0
      rw [if_pos c, if_pos c]
      by_cases e : 0 = σ.2.1
      · rw [if_pos e] at h0; omega
      · rw [if_neg e] at h0
        have h9 := h3 (by omega) h0
        rw [if_neg (by omega)]
        by_cases e1 : σ.2.1 = 1
        · rw [if_pos e1.symm]; rw [if_pos e1] at h9; exact h9
        · rw [if_neg (by omega)]; rw [if_neg e1] at h9; exact h9
    · rw [if_neg c, if_neg (by decide)] at h0
      have := h2 (0 + 1) (by omega) (by omega)
      omega
theorem good_undo {σ : SG} (h : GOOD σ) (hc : ¬ σ.2.1 = 0) (hr : 1 ≤ mF (σ.2.2.1 (σ.2.1 - 1))) : GOOD (sUndo σ) := by
  obtain ⟨h1, h2, h3, h4, h5, h6⟩ := h
  refine ⟨hr, fun p hp1 hp2 => ?_, fun hc2 h0 => ?_, h4, h5, ?_⟩
  · have hp2 : p < σ.2.1 - 1 := hp2
    exact h2 p hp1 (by omega)
  · have hc2 : 1 ≤ σ.2.1 - 1 := hc2
    have h9 := h3 (by omega) h0
    show mF (if σ.2.1 - 1 = 1 then σ.2.2.1 (σ.2.1 - 1) else σ.2.2.1 1) ≤ 1
    rw [if_neg (by omega)] at h9
    by_cases e : σ.2.1 - 1 = 1
    · rw [if_pos e, e]; exact h9
    · rw [if_neg e]; exact h9
  · show σ.2.1 - 1 ≤ 14
    omega
theorem good_back {σ : SG} {g : RW} (h : GOOD σ) (hg : 1 ≤ mF g) : GOOD (sUndo (sPush σ g)) := by
  refine good_undo (good_push h hg) push_ne ?_
  show 1 ≤ mF (sUndo (sPush σ g)).1
  rw [undo_row]; exact h.1
/-- two pushes, two undos -/
theorem undo2_row {σ : SG} {g k : RW} (hc : σ.2.1 ≤ 14) : (sUndo (sPush (sPush σ g) k)).1 = g ∧ (sUndo (sUndo (sPush (sPush σ g) k))).1 = σ.1 ∧ ¬ (sUndo (sPush (sPush σ g) k)).2.1 = 0 := by
  refine ⟨undo_row, ?_, ?_⟩
  · show pushR (pushC σ.2.1) (pushR σ.2.1 σ.2.2.1 σ.1) g (pushC (pushC σ.2.1) - 1 - 1) = σ.1
    unfold pushR pushC
    by_cases h : σ.2.1 < 14
    · simp only [if_pos h]
      by_cases h2 : σ.2.1 + 1 < 14
      · simp only [if_pos h2]
        rw [if_neg (by omega), if_pos (by omega)]
      · simp only [if_neg h2]
        rw [if_neg (by decide), if_pos (by omega)]
    · simp only [if_neg h, if_neg (show ¬ 14 < 14 by decide)]
      rw [if_neg (by decide), if_pos (by decide)]
  · show ¬ pushC (pushC σ.2.1) - 1 = 0
    unfold pushC
    by_cases h : σ.2.1 < 14
    · simp only [if_pos h]
      split <;> omega
    · simp only [if_neg h, if_neg (show ¬ 14 < 14 by decide)]
      decide
theorem mF_upd {f : RW} {k : Nat} (hk : k ≠ 0) (v : Int32) : mF (upd f k v) = mF f := by
  unfold mF
  rw [pk_un (fun z => hk z.symm)]
theorem good_try {σ : SG} {L : Int32} {n : Nat} (h : GOOD σ) (hm : mF σ.1 ≤ 6) : GOOD (sUndo (sUndo (sPush (sPush σ (upd σ.1 10 L)) (RUNF (upd σ.1 10 L) n)))) := by
  have m1 : mF (upd σ.1 10 L) = mF σ.1 := mF_upd (by decide) L
  have g1 : GOOD (sPush σ (upd σ.1 10 L)) := good_push h (by rw [m1]; exact h.1)
  have m2 : mF (RUNF (upd σ.1 10 L) n) = mF σ.1 := by rw [mF_run (by rw [m1]; exact hm), m1]
  obtain ⟨e1, e2, e3⟩ := undo2_row (σ := σ) (g := upd σ.1 10 L) (k := RUNF (upd σ.1 10 L) n) h.2.2.2.2.2
  refine good_undo (good_back g1 (by rw [m2]; exact h.1)) e3 ?_
  show 1 ≤ mF (sUndo (sUndo (sPush (sPush σ (upd σ.1 10 L)) (RUNF (upd σ.1 10 L) n)))).1
  rw [e2]; exact h.1
theorem mF_add {B m : Nat} {f : RW} (ok : OKs B m f) (x y z : Int32) : mF (ADDF f x y z) = m + 1 := by
  have hm := ok.1
  have e : ADDF f x y z 0 = nI (m + 1) := by
    unfold ADDF
    rw [pk_us, addF_out (Or.inl (by omega)), ok.2.1]
    exact nI_1 m
  unfold mF
  rw [e]
  exact nI_cl (by omega)
theorem mF_lay {f : RW} (k w : Nat) (v : Int32) : mF (sX8_lay f k w v) = mF f := by
  unfold sX8_lay
  exact mF_upd (by omega) v
theorem good_act {B : Nat} {σ : SG} {N : Nat} (h : GOOD σ) (ok : OKs B (mF σ.1) σ.1) : GOOD (ACT σ N).2 := by
  have hm6 := ok.1
  have hN : N % 16 = 0 ∨ (1 ≤ N % 16 ∧ N % 16 < 4) ∨ (4 ≤ N % 16 ∧ N % 16 < 6) ∨ (6 ≤ N % 16 ∧ N % 16 < 8) ∨ N % 16 = 8 ∨ N % 16 = 9 ∨ N % 16 = 10 ∨ 11 ≤ N % 16 := by omega
  rcases hN with hj | hj | hj | hj | hj | hj | hj | hj
  · by_cases c : mF σ.1 < 5
    · rw [act_0 hj c]
      exact good_push h (by rw [mF_add ok]; omega)
    · rw [act_0n hj c]; exact h
  · by_cases c : N / 96 % 3 = 0
    · rw [act_d0 hj c]; exact good_push h (by rw [mF_lay]; exact h.1)
    · rw [act_d1 hj c]; exact good_push h (by rw [mF_lay]; exact h.1)
  · rw [act_g hj]; exact good_push h (by rw [mF_lay]; exact h.1)
  · by_cases c : sX8_isSetting (nI (N / 16 % 6)) (nI (N / 96 % (if N / 16 % 6 = 0 then 1200 else 40))) = 0
    · rw [act_sn hj _ rfl c]; exact h
    · rw [act_s hj _ rfl c]; exact good_push h (by rw [mF_upd (by omega)]; exact h.1)
  · by_cases c : mF σ.1 < 2
    · rw [act_un hj c]; exact h
    · by_cases d : σ.2.1 = 0
      · rw [act_u0 hj c d]; exact h
      · rw [act_u hj c d]
        refine good_undo h d ?_
        by_cases e : σ.2.1 = 1
        · have h3 := h.2.2.1 (by omega)
          rw [if_pos e] at h3
          rw [e]
          show 1 ≤ mF (σ.2.2.1 0)
          by_cases z : mF (σ.2.2.1 0) = 0
          · have := h3 z; omega
          · omega
        · exact h.2.1 _ (by omega) (by omega)
  · by_cases c : N / 16 % 2 = 0
    · rw [act_k0 hj c]
      exact ⟨h.1, h.2.1, h.2.2.1, fun fs hf => by cases hf; exact h.1, h.2.2.2.2.1, h.2.2.2.2.2⟩
    · rw [act_k1 hj c]
      exact ⟨h.1, h.2.1, h.2.2.1, h.2.2.2.1, fun fs hf => by cases hf; exact h.1, h.2.2.2.2.2⟩
  · by_cases c : N / 16 % 2 = 0
    · rcases (show σ.2.2.2.1 = none ∨ ∃ fs, σ.2.2.2.1 = some fs by cases σ.2.2.2.1 with | none => exact Or.inl rfl | some fs => exact Or.inr ⟨fs, rfl⟩) with hk | ⟨fs, hk⟩
      · rw [act_b0n hj c hk]; exact h
      · rw [act_b0 hj c hk]
        exact ⟨h.2.2.2.1 fs hk, fun p _ hp => absurd hp (Nat.not_lt_zero p), fun hc => absurd hc (show ¬ 1 ≤ 0 by decide), h.2.2.2.1, h.2.2.2.2.1, (show 0 ≤ 14 by decide)⟩
    · rcases (show σ.2.2.2.2 = none ∨ ∃ fs, σ.2.2.2.2 = some fs by cases σ.2.2.2.2 with | none => exact Or.inl rfl | some fs => exact Or.inr ⟨fs, rfl⟩) with hk | ⟨fs, hk⟩
      · rw [act_b1n hj c hk]; exact h
      · rw [act_b1 hj c hk]
        exact ⟨h.2.2.2.2.1 fs hk, fun p _ hp => absurd hp (Nat.not_lt_zero p), fun hc => absurd hc (show ¬ 1 ≤ 0 by decide), h.2.2.2.1, h.2.2.2.2.1, (show 0 ≤ 14 by decide)⟩
  · rw [act_r hj]; exact good_push h (by rw [mF_run hm6]; exact h.1)
theorem thrown_r {v : Int32} (h : 0 ≤ v.toInt) : sL_thrown v = 0 := by
  have a1 : ¬ v = (-9999001) := fun z => by
    rw [z] at h
    exact absurd h (by decide)
  have a2 : ¬ v = (-9999002) := fun z => by
    rw [z] at h
    exact absurd h (by decide)
  have a3 : ¬ v = (-9999003) := fun z => by
    rw [z] at h
    exact absurd h (by decide)
  unfold sL_thrown
  simp only [if_neg a1, if_neg a2, if_neg a3]
theorem set_lim {k : Nat} (h : k ≤ 9999) : ¬ sX8_isSetting 0 (nI k) = 0 := fun z => (all_m _ _).mp z (by
  have e := t_n (k := k) (by omega)
  have e0 : (0 : Int32).toInt = 0 := rfl
  have s0 : slo 0 = 0 := rfl
  have s1 : shi 0 = 9999 := rfl
  omega)
theorem lim_0 (k : Nat) : nI (100 * k) - 0 = nI (100 * k) := Int32.sub_zero _
theorem lim_1 (k : Nat) (h : 1 ≤ k) (hk : k < 100) : nI (100 * k) - 100 = nI (100 * (k - 1)) := by
  have h1 := sbI (a := 100 * k) (b := 100) (by omega) (by omega)
  have e : nI 100 = 100 := rfl
  rw [e] at h1
  rw [h1, show 100 * k - 100 = 100 * (k - 1) by omega]
