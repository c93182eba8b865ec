theorem nn_n {k : Nat} (h : k < 2147483648) : ¬ nI k < 0 := by
  have e0 : (0 : Int32).toInt = 0 := rfl
  rw [lt_i, t_n h, e0]; omega
theorem neg_100 : nI (100 * 0) - 100 < 0 := by decide
/-- a limit is tried, and taken back -/
theorem try_facts {σ : SG} (K N : Nat) (hG : GOOD σ) (hm : mF σ.1 ≤ 6) : ∃ σA σB σC σD : SG, σA = sPush σ (upd σ.1 10 (nI (100 * K))) ∧ σB = sPush σA (RUNF σA.1 N) ∧ σC = sUndo σB ∧ σD = sUndo σC ∧ σB.1 3 = RUNF (upd σ.1 10 (nI (100 * K))) N 3 ∧ (¬ σB.2.1 = 0 ∧ σB.2.1 ≤ 14) ∧ (¬ σC.2.1 = 0 ∧ σC.2.1 ≤ 14) ∧ σD.1 = σ.1 ∧ GOOD σD := by
  refine ⟨_, _, _, _, rfl, rfl, rfl, rfl, ?_, ⟨push_ne, push_le⟩, ⟨?_, ?_⟩, ?_, ?_⟩
  · rfl
  · exact (undo2_row hG.2.2.2.2.2).2.2
  · exact Nat.le_trans (Nat.sub_le _ 1) push_le
  · exact (undo2_row hG.2.2.2.2.2).2.1
  · exact good_try hG hm
