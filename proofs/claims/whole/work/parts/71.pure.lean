/-! PURE: a room is read; a command -/
section P22
variable {q0 tq sg tx z ft jb : Nat → Int32} {q2 : Int32} {sz p n : Nat}
theorem tn_p {p : Nat} (h : p < 1000) : (nI p).toNatClampNeg = p := by
  rw [tc_n, nI_i (by omega)]; omega
theorem tmp_any (T : TXT tq sg q2 tx sz) {q z : Nat → Int32} {p p' : Nat} (hpp : p ≤ p') (H : (∃ e, p ≤ e ∧ e ≤ sz ∧ RDR q e 1 ∧ RFR z e 0 sz) ∨ (p' ≤ sz ∧ RDR q p' 0 ∧ RFR z p' 1 sz)) :
    K12 q (sX1_readTemperature q tq sg).2 ∧ K113 z (sX8_temperature z tx (z 11).toNatClampNeg).2 ∧ ((∃ e, p ≤ e ∧ e ≤ sz ∧ RDR (sX1_readTemperature q tq sg).2 e 1 ∧ RFR (sX8_temperature z tx (z 11).toNatClampNeg).2 e 0 sz) ∨ (p' + 4 ≤ sz ∧ RDR (sX1_readTemperature q tq sg).2 (p' + 4) 0 ∧ RFR (sX8_temperature z tx (z 11).toNatClampNeg).2 (p' + 4) 1 sz ∧ (sX1_readTemperature q tq sg).1 = (sX8_temperature z tx (z 11).toNatClampNeg).1 ∧ RDR q p' 0)) := by
  have hsz := T.2.2.1
  rcases H with ⟨e, e1, e2, e3, e4⟩ | ⟨e2, e3, e4⟩
  · have ht : (z 11).toNatClampNeg = e := by rw [e4.1]; exact tn_p (by omega)
    rw [ht]
    obtain ⟨a1, a2, a3⟩ := tmp_bad (tq := tq) (sg := sg) (tx := tx) e3 e4
    refine ⟨?_, a3, Or.inl ⟨e, e1, e2, ?_, a2⟩⟩
    · rw [a1]; exact fun k k1 k2 => pk_un k2
    · rw [a1]; exact ⟨by rw [pk_un (by decide)]; exact e3.1, pk_us⟩
  · have ht : (z 11).toNatClampNeg = p' := by rw [e4.1]; exact tn_p (by omega)
    rw [ht]
    obtain ⟨a1, a2, a3⟩ := tmp_eq T e2 e3 e4
    refine ⟨a1, a2, ?_⟩
    rcases a3 with ⟨e, f1, f2, f3, f4⟩ | ⟨f1, f2, f3, f4⟩
    · exact Or.inl ⟨e, by omega, f2, f3, f4⟩
    · exact Or.inr ⟨f1, f2, f3, f4, e3⟩
theorem rdr_n {q : Nat → Int32} {a b : Nat} (h : RDR q a 1) (h2 : RDR q b 0) : False := by
  have := h.2.symm.trans h2.2
  exact absurd this (by decide)
theorem rdr_up {q : Nat → Int32} {a k : Nat} {b v : Int32} (h : RDR q a b) (h1 : k ≠ 1) (h2 : k ≠ 2) : RDR (upd q k v) a b := ⟨by rw [pk_un (Ne.symm h1)]; exact h.1, by rw [pk_un (Ne.symm h2)]; exact h.2⟩
/-- a room, read and taken in -/
theorem g_r (T : TXT tq sg q2 tx sz) {q1 z1 : Nat → Int32} {Cn Rn : Int32 × (Nat → Int32)} (h3 : q1 3 = 114) (hk : K113 z z1) (N : PR q1 z1 sz (p + 1) 2 (WN 1 50) Cn Rn) :
    CST sz p n z ft (sX1_readsCommand_z_4 q0 tq sg q1 Cn) (sX8_readCommand_z_13 z tx ft jb p n Rn) := by
  obtain ⟨a1, a2, a3⟩ := N
  have H1 : (∃ e, p + 1 ≤ e ∧ e ≤ sz ∧ RDR (upd Cn.2 4 Cn.1) e 1 ∧ RFR Rn.2 e 0 sz) ∨ (p + 1 + 2 ≤ sz ∧ RDR (upd Cn.2 4 Cn.1) (p + 1 + 2) 0 ∧ RFR Rn.2 (p + 1 + 2) 1 sz) := by
    rcases a3 with ⟨e, e1, e2, e3, e4⟩ | ⟨e1, e2, e3, e4⟩
    · exact Or.inl ⟨e, e1, e2, rdr_up e3 (by decide) (by decide), e4⟩
    · exact Or.inr ⟨e1, rdr_up e2 (by decide) (by decide), e3⟩
  unfold sX1_readsCommand_z_4 sX8_readCommand_z_13
  obtain ⟨b1, b2, b3⟩ := tmp_any T (by omega) H1
  generalize sX8_temperature Rn.2 tx (Rn.2 11).toNatClampNeg = R2 at b2 b3 ⊢
  generalize sX1_readTemperature (upd Cn.2 4 Cn.1) tq sg = C2 at b1 b3 ⊢
  have H2 : (∃ e, p + 1 ≤ e ∧ e ≤ sz ∧ RDR (upd C2.2 5 C2.1) e 1 ∧ RFR R2.2 e 0 sz) ∨ (p + 1 + 2 + 4 ≤ sz ∧ RDR (upd C2.2 5 C2.1) (p + 1 + 2 + 4) 0 ∧ RFR R2.2 (p + 1 + 2 + 4) 1 sz) := by
    rcases b3 with ⟨e, e1, e2, e3, e4⟩ | ⟨e1, e2, e3, e4⟩
    · exact Or.inl ⟨e, e1, e2, rdr_up e3 (by decide) (by decide), e4⟩
    · exact Or.inr ⟨e1, rdr_up e2 (by decide) (by decide), e3⟩
  unfold sX1_readsCommand_z_5 sX8_readCommand_z_14
  obtain ⟨c1, c2, c3⟩ := tmp_any T (by omega) H2
  generalize sX8_temperature R2.2 tx (R2.2 11).toNatClampNeg = R3 at c2 c3 ⊢
  generalize sX1_readTemperature (upd C2.2 5 C2.1) tq sg = C3 at c1 c3 ⊢
  unfold sX1_readsCommand_z_6 sX8_readCommand_z_15
  have kz : K113 z R3.2 := fun k k1 k2 => (c2 k k1 k2).trans ((b2 k k1 k2).trans ((a2 k k1 k2).trans (hk k k1 k2)))
  have k12 : R3.2 12 = z 12 := kz 12 (by decide) (by decide)
  rcases c3 with ⟨e, e1, e2, e3, e4⟩ | ⟨e1, e2, e3, e4, e5⟩
  · rw [if_neg (show ¬ C3.2 2 = 0 by rw [e3.2]; decide), if_pos e4.2.1]
    exact ⟨fun k k1 k2 k3 k4 => kz k k2 k4, Or.inl ⟨e, by omega, e2, rfl, rdr_up e3 (by decide) (by decide), rfl, e4.1⟩⟩
  · have x5 : RDR C2.2 (p + 1 + 2 + 4) 0 := ⟨by have := e5.1; rw [pk_un (by decide)] at this; exact this, by have := e5.2; rw [pk_un (by decide)] at this; exact this⟩
    rcases b3 with ⟨e, f1, f2, f3, f4⟩ | ⟨f1, f2, f3, f4, f5⟩
    · exact absurd (rdr_n f3 x5) id
    have x4 : RDR Cn.2 (p + 1 + 2) 0 := ⟨by have := f5.1; rw [pk_un (by decide)] at this; exact this, by have := f5.2; rw [pk_un (by decide)] at this; exact this⟩
    rcases a3 with ⟨e, w1, w2, w3, w4⟩ | ⟨w1, w2, w3, V, v1, v2, v3, v4⟩
    · exact absurd (rdr_n w3 x4) id
    rw [if_pos e2.2, if_neg (show ¬ R3.2 13 = 0 by rw [e3.2.1]; decide)]
    have q3 : upd C3.2 6 C3.1 3 = 114 := by
      rw [pk_un (by decide), c1 3 (by decide) (by decide), pk_un (by decide), b1 3 (by decide) (by decide), pk_un (by decide), a1 3 (by decide) (by decide)]; exact h3
    have q4 : upd C3.2 6 C3.1 4 = Rn.1 := by
      rw [pk_un (by decide), c1 4 (by decide) (by decide), pk_un (by decide), b1 4 (by decide) (by decide), pk_us, v1, v2]
    have q5 : upd C3.2 6 C3.1 5 = R2.1 := by
      rw [pk_un (by decide), c1 5 (by decide) (by decide), pk_us]; exact f4
    have q6 : upd C3.2 6 C3.1 6 = R3.1 := by
      rw [pk_us]; exact e4
    have hD : ∀ g u rv, sX7_doCommand (upd C3.2 6 C3.1) g u rv = sX7_doCommand_z_3 (upd C3.2 6 C3.1) g u rv (sX5_takeRoom g u rv Rn.1 R2.1 R3.1) := fun g u rv => by
      unfold sX7_doCommand
      rw [q3, if_neg (by decide), if_neg (by decide), if_pos (show (114 : Int32) = 114 from rfl), q4, q5, q6]
    have refuse : ∀ R : Int32 × (Nat → Int32) × (Nat → Int32) × (Nat → Int32), R = (1, upd R3.2 12 (R3.2 12 + 1), ft, jb) → (∀ g u rv Bc, SM ft g u rv → OKs Bc n ft → sX5_takeRoom g u rv Rn.1 R2.1 R3.1 = (-1, rv)) → CST sz p n z ft (1, upd C3.2 6 C3.1) R := fun R eR hT => by
      rw [eR]
      refine ⟨fun k k1 k2 k3 k4 => ?_, Or.inr ⟨p + 1 + 2 + 4 + 4, by omega, e1, rfl, rdr_up e2 (by decide) (by decide), rfl, ?_, ?_⟩⟩
      · dsimp only
        rw [pk_un k3]; exact kz k k2 k4
      · dsimp only
        rw [pk_un (by decide)]; exact e3.1
      · intro g u rv Bc hB sr ok
        rw [hD, hT g u rv Bc sr ok]
        refine ⟨⟨n, sr, ok.mono (Nat.le_add_right _ _)⟩, ?_⟩
        show upd R3.2 12 (R3.2 12 + 1) 12 = z 12 + 1
        rw [pk_us, k12]
    by_cases hN : sX8_isNew Rn.1 R2.1 R3.1 = 0
    · rw [if_pos hN]
      refine refuse _ ?_ (fun g u rv Bc sr ok => ?_)
      · unfold sX8_readCommand_z_16
        rw [done_e, if_neg (show ¬ (1 : Int32) = 0 by decide)]
        rfl
      · unfold sX5_takeRoom
        rcases sX5_firstFree g u rv with _ | k
        · rfl
        · exact if_pos ((new_iff Rn.1 R2.1 R3.1).mpr hN)
    · have hN' : ¬ sX5_canBeRoom Rn.1 R2.1 R3.1 = 0 := fun h => hN ((new_iff _ _ _).mp h)
      rw [if_neg hN]
      by_cases h6 : (6 : Int32) ≤ ft 0
      · rw [if_pos h6]
        refine refuse _ ?_ (fun g u rv Bc sr ok => ?_)
        · unfold sX8_readCommand_z_17
          rw [done_e, if_neg (show ¬ (1 : Int32) = 0 by decide)]
          rfl
        · unfold sX5_takeRoom
          rw [firstFree_eq sr ok, if_neg ((six0_iff ok).mp h6)]
          rfl
      · rw [if_neg h6]
        unfold sX8_readCommand_z_18 sX8_readCommand_j165 sX8_readCommand_z_20
        rw [done_e, if_neg (show ¬ (1 : Int32) = 0 by decide), addOn_eq]
        refine ⟨fun k k1 k2 k3 k4 => ?_, Or.inr ⟨p + 1 + 2 + 4 + 4, by omega, e1, rfl, rdr_up e2 (by decide) (by decide), rfl, ?_, ?_⟩⟩
        · dsimp only
          rw [pk_un k3]; exact kz k k2 k4
        · dsimp only
          rw [pk_un (by decide)]; exact e3.1
        · intro g u rv Bc hB sr ok
          have hm : n < 6 := Classical.byContradiction (fun hq => h6 ((six0_iff ok).mpr hq))
          have hT : sX5_takeRoom g u rv Rn.1 R2.1 R3.1 = (nI n, updR rv n (sX2_fill (rv n) Rn.1 R2.1 R3.1)) := by
            unfold sX5_takeRoom
            rw [firstFree_eq sr ok, if_pos hm]
            show (if sX5_canBeRoom Rn.1 R2.1 R3.1 = 0 then _ else _) = _
            rw [if_neg hN']
            unfold sX5_takeRoom_z_3
            rw [(fill_at (rv n) Rn.1 R2.1 R3.1).1, sr.2.2.1 n hm]
          have hb := lv_at0 (fun hq => hN ((new_t Rn.1 R2.1 R3.1).mpr hq))
          have hS := add_st sr ok hm hb.1 hb.2.1 hb.2.2
          have eZ : sX7_doCommand_z_3 (upd C3.2 6 C3.1) g u rv (nI n, updR rv n (sX2_fill (rv n) Rn.1 R2.1 R3.1)) = (1, g, u, updR rv n (sX2_fill (rv n) Rn.1 R2.1 R3.1)) := by
            unfold sX7_doCommand_z_3
            rw [if_neg (show ¬ nI n = -1 from nI_nm1 (by omega))]
          rw [hD, hT, eZ]
          refine ⟨⟨n + 1, hS.1, hS.2.mono (Nat.le_add_right _ _)⟩, ?_⟩
          show upd R3.2 12 (R3.2 12 + (if (if nI n < 0 then 0 else 1 : Int32) = 0 then 1 else 0)) 12 = z 12 + 0
          rw [pk_us, if_neg (show ¬ nI n < 0 from nI_lt_f (a := n) (b := 0) (Nat.zero_le _) (by omega)), k12]
          rfl
end P22
