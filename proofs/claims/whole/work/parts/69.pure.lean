/-! PURE: a command is read -/
def PR (q z : Nat → Int32) (sz p n : Nat) (W : Int32 → Int32 → Prop) (C R : Int32 × (Nat → Int32)) : Prop :=
  K12 q C.2 ∧ K113 z R.2 ∧ ((∃ e, p ≤ e ∧ e ≤ sz ∧ RDR C.2 e 1 ∧ RFR R.2 e 0 sz) ∨ (p + n ≤ sz ∧ RDR C.2 (p + n) 0 ∧ RFR R.2 (p + n) 1 sz ∧ W C.1 R.1))
def WN (LO HI : Nat) (c r : Int32) : Prop := ∃ V, c = nI V ∧ r = nI V ∧ LO ≤ V ∧ V ≤ HI
section P20
variable {q0 tq sg tx : Nat → Int32} {q2 : Int32} {sz : Nat}
theorem fg6 {z : Nat → Int32} {sp dg : Nat} {lo hi : Int32} : ∀ (d i k : Nat), k + d ≤ 4 → lp_X8_figures_6 z tx sp dg lo hi d i (nI (10 ^ k)) = lp_X8_figures_28 z tx sp dg lo hi (i + d) (nI (10 ^ (k + d))) dg (nI (10 ^ (k + d))) 0 z sp
  | 0, i, k, h => rfl
  | d + 1, i, k, h => by
    have hk : 10 ^ k ≤ 10 ^ 4 := Nat.pow_le_pow_right (by decide) (by omega)
    have e : nI (10 ^ k) * 10 = nI (10 ^ (k + 1)) := by
      rw [mlI (b := 10) rfl (by omega) (by omega), Nat.pow_succ]
    show lp_X8_figures_6 z tx sp dg lo hi d (i + 1) (nI (10 ^ k) * 10) = _
    rw [e, fg6 d (i + 1) (k + 1) (by omega), show i + 1 + d = i + (d + 1) by omega, show k + 1 + d = k + (d + 1) by omega]
theorem num_eq (T : TXT tq sg q2 tx sz) {q z : Nat → Int32} {p dg LO HI : Nat} (hp : p ≤ sz) (hdg : dg ≤ 4) (hd1 : 1 ≤ dg) (hHI : HI ≤ 9999) (hLO : LO ≤ 9999) (h1 : RDR q p 0) (h2 : RFR z p 1 sz) : PR q z sz p dg (WN LO HI) (sX1_readNumber q tq sg dg (nI LO) (nI HI)) (sX8_figures z tx p dg (nI LO) (nI HI)) := by
  have e1 : lp_X8_figures_6 z tx p dg (nI LO) (nI HI) (dg - 1) 1 1 = _ := fg6 (dg - 1) 1 0 (by omega)
  have h := num_loop T (q := q) (zz := z) (dg := dg) (sp := p) (j := 1 + (dg - 1)) (LO := LO) (HI := HI) (u := nI (10 ^ (0 + (dg - 1)))) hdg hHI hLO dg 1 0 p q z (by omega) (Nat.le_refl _) (by rw [Nat.zero_mul]; exact Nat.pow_pos (by decide)) hp h1 h2 (fun h => by omega)
  have e2 : 10 ^ dg / 10 = 10 ^ (0 + (dg - 1)) := by
    obtain ⟨d, rfl⟩ : ∃ d, dg = d + 1 := ⟨dg - 1, by omega⟩
    rw [Nat.pow_succ, Nat.mul_div_cancel _ (by decide)]
    congr 1
    omega
  rw [e2, Nat.zero_mul] at h
  unfold sX8_figures
  rw [e1]
  exact h
theorem move_bad {q : Nat → Int32} {p : Nat} (h : RDR q p 1) (x : Int32) : sX1_moveIf q x = upd q 2 1 := by
  unfold sX1_moveIf
  rw [h.2, if_neg (show ¬ (1 : Int32) = 0 by decide), ite_self]
theorem num_bad {q z : Nat → Int32} {p dg : Nat} {lo hi : Int32} (hdg : dg ≤ 4) (hd1 : 1 ≤ dg) (h1 : RDR q p 1) (h2 : RFR z p 0 sz) : (sX1_readNumber q tq sg dg lo hi).2 = upd q 2 1 ∧ (sX8_figures z tx p dg lo hi).2 = z := by
  constructor
  · obtain ⟨d, hd⟩ : ∃ d, dg = d + 1 := ⟨dg - 1, by omega⟩
    unfold sX1_readNumber
    have e : ∀ n, lp_X1_readNumber_6 q tq sg n lo hi (d + 1) 1 0 q = ((fun (z_2 : (Nat → Int32)) => (if (z_2 2) = 0 then (lp_X1_readNumber_6 q tq sg n lo hi d (1 + 1) (((0 * 10) + (sX6_signAt tq sg (q 1))) - 48) z_2) else (0, z_2))) (sX1_moveIf q (if (sX6_signAt tq sg (q 1)) < 48 then 0 else (if 57 < (sX6_signAt tq sg (q 1)) then 0 else (if (sX1_isBegun (((0 * 10) + (sX6_signAt tq sg (q 1))) - 48) (n - 1) lo hi) = 0 then 0 else 1))))) := fun _ => rfl
    rw [hd, e, move_bad h1]
    dsimp only
    rw [if_neg (show ¬ upd q 2 1 2 = 0 by rw [pk_us]; decide)]
  · have e1 : lp_X8_figures_6 z tx p dg lo hi (dg - 1) 1 1 = _ := fg6 (dg - 1) 1 0 (by omega)
    unfold sX8_figures
    rw [e1, fg_bad h2.2.1]
/-- a temperature -/
theorem tmp_bad {q z : Nat → Int32} {p : Nat} (h1 : RDR q p 1) (h2 : RFR z p 0 sz) : (sX1_readTemperature q tq sg).2 = upd q 2 1 ∧ RFR (sX8_temperature z tx p).2 p 0 sz ∧ K113 z (sX8_temperature z tx p).2 := by
  have r2 : RDR (upd q 2 1) p 1 := ⟨by rw [pk_un (by decide)]; exact h1.1, pk_us⟩
  have uu : upd (upd q 2 1) 2 1 = upd q 2 1 := by
    funext k
    by_cases hk : k = 2
    · subst hk; rw [pk_us, pk_us]
    · rw [pk_un hk]
  constructor
  · unfold sX1_readTemperature sX1_readTemperature_j30
    rw [move_bad h1]
    unfold sX1_readTemperature_z_2 sX1_readTemperature_z_3 sX1_readTemperature_z_4
    have n1 := (num_bad (sz := sz) (tq := tq) (sg := sg) (tx := tx) (z := z) (lo := 0) (hi := 300) (dg := 3) (by decide) (by decide) r2 h2).1
    have n2 := (num_bad (sz := sz) (tq := tq) (sg := sg) (tx := tx) (z := z) (lo := 0) (hi := 200) (dg := 3) (by decide) (by decide) r2 h2).1
    rw [uu] at n1 n2
    by_cases h : sX6_signAt tq sg (q 1) = 45
    · rw [if_pos h]; exact n1
    · rw [if_neg h]; exact n2
  · have r : RFR (upd (upd z 11 (nI (p + 0))) 13 0) p 0 sz := ⟨by rw [pk_un (by decide), pk_us]; rfl, pk_us, by rw [pk_un (by decide), pk_un (by decide)]; exact h2.2.2⟩
    have kk : K113 z (upd (upd z 11 (nI (p + 0))) 13 0) := fun k k1 k2 => by rw [pk_un k2, pk_un k1]
    have n1 := (num_bad (sz := sz) (tq := tq) (sg := sg) (tx := tx) (q := upd q 2 1) (lo := 0) (hi := 300) (dg := 3) (by decide) (by decide) r2 r).2
    have n2 := (num_bad (sz := sz) (tq := tq) (sg := sg) (tx := tx) (q := upd q 2 1) (lo := 0) (hi := 200) (dg := 3) (by decide) (by decide) r2 r).2
    unfold sX8_temperature sX8_temperature_z_1 sX8_temperature_z_2
    rw [if_pos h2.2.1]
    by_cases h : sX8_at z tx p = 45
    · rw [if_pos h, if_pos h]
      show RFR (sX8_figures (upd (upd z 11 (nI (p + 0))) 13 0) tx p 3 0 300).2 p 0 sz ∧ K113 z (sX8_figures (upd (upd z 11 (nI (p + 0))) 13 0) tx p 3 0 300).2
      rw [n1]; exact ⟨r, kk⟩
    · rw [if_neg h, if_neg h]
      show RFR (sX8_figures (upd (upd z 11 (nI (p + 0))) 13 0) tx p 3 0 200).2 p 0 sz ∧ K113 z (sX8_figures (upd (upd z 11 (nI (p + 0))) 13 0) tx p 3 0 200).2
      rw [n2]; exact ⟨r, kk⟩
theorem pr_sub {q z q1 z1 : Nat → Int32} {p p1 n n1 : Nat} {W W1 : Int32 → Int32 → Prop} {C R C1 R1 : Int32 × (Nat → Int32)} (h : PR q1 z1 sz p1 n1 W1 C1 R1) (hk : K12 q q1) (hk2 : K113 z z1) (hc : C.2 = C1.2) (hr : R.2 = R1.2) (hp : p ≤ p1) (hn : p1 + n1 = p + n) (hW : W1 C1.1 R1.1 → W C.1 R.1) : PR q z sz p n W C R := by
  obtain ⟨a1, a2, a3⟩ := h
  refine ⟨fun k k1 k2 => ?_, fun k k1 k2 => ?_, ?_⟩
  · rw [hc]; exact (a1 k k1 k2).trans (hk k k1 k2)
  · rw [hr]; exact (a2 k k1 k2).trans (hk2 k k1 k2)
  · rw [hc, hr]
    rcases a3 with ⟨e, e1, e2, e3, e4⟩ | ⟨e1, e2, e3, e4⟩
    · exact Or.inl ⟨e, by omega, e2, e3, e4⟩
    · rw [hn] at e1 e2 e3
      exact Or.inr ⟨e1, e2, e3, hW e4⟩
theorem tmp_eq (T : TXT tq sg q2 tx sz) {q z : Nat → Int32} {p : Nat} (hp : p ≤ sz) (h1 : RDR q p 0) (h2 : RFR z p 1 sz) : PR q z sz p 4 (fun c r => c = r) (sX1_readTemperature q tq sg) (sX8_temperature z tx p) := by
  have hsz := T.2.2.1
  have hc : sX6_signAt tq sg (nI p) = sX8_at z tx p := by
    by_cases h : p < sz
    · rw [sign_in T h, at_in h2.2.2 hsz h]
    · rw [sign_out T (by omega) (by omega), at_out h2.2.2 hsz (by omega) (by omega)]
  have hlt : ¬ sX8_at z tx p = -1 → p < sz := fun h => by
    by_cases q : p < sz
    · exact q
    · exact absurd (at_out h2.2.2 hsz (by omega) (by omega)) h
  unfold sX1_readTemperature sX1_readTemperature_j30 sX1_readTemperature_z_2 sX1_readTemperature_z_3 sX1_readTemperature_z_4 sX8_temperature sX8_temperature_z_3 sX8_temperature_z_8 sX8_temperature_z_5
  rw [h1.1, hc, if_neg (show ¬ z 13 = 0 by rw [h2.2.1]; decide)]
  have gq : ∀ hlt : p < sz, RDR (upd q 1 (q 1 + 1)) (p + 1) 0 ∧ K12 q (upd q 1 (q 1 + 1)) ∧ sX1_moveIf q 1 = upd q 1 (q 1 + 1) := fun hlt => by
    refine ⟨⟨by rw [pk_us, h1.1]; exact nI_1 p, by rw [pk_un (by decide)]; exact h1.2⟩, fun k k1 k2 => pk_un k1, ?_⟩
    unfold sX1_moveIf
    rw [if_neg (by decide), if_pos h1.2]
  have gz : RFR (upd (upd z 11 (nI (p + 1))) 13 1) (p + 1) 1 sz ∧ K113 z (upd (upd z 11 (nI (p + 1))) 13 1) := ⟨⟨by rw [pk_un (by decide), pk_us], pk_us, by rw [pk_un (by decide), pk_un (by decide)]; exact h2.2.2⟩, fun k k1 k2 => by rw [pk_un k2, pk_un k1]⟩
  by_cases c43 : sX8_at z tx p = 43
  · have hl := hlt (by rw [c43]; decide)
    obtain ⟨g1, g2, g3⟩ := gq hl
    have h45 : ¬ sX8_at z tx p = 45 := by rw [c43]; decide
    rw [if_pos c43, if_pos c43, if_neg h45, if_neg h45, if_neg h45, g3]
    have N := num_eq T (LO := 0) (HI := 200) (dg := 3) (by omega) (by decide) (by decide) (by decide) (by decide) g1 gz.1
    rw [show nI 0 = 0 from rfl, show nI 200 = 200 from rfl] at N
    generalize sX1_readNumber (upd q 1 (q 1 + 1)) tq sg 3 0 200 = C1 at N ⊢
    generalize sX8_figures (upd (upd z 11 (nI (p + 1))) 13 1) tx (p + 1) 3 0 200 = R1 at N ⊢
    exact pr_sub N g2 gz.2 rfl rfl (by omega) (by omega) (fun ⟨V, v1, v2, _⟩ => v1.trans v2.symm)
  · rw [if_neg c43, if_neg c43]
    by_cases c45 : sX8_at z tx p = 45
    · have hl := hlt (by rw [c45]; decide)
      obtain ⟨g1, g2, g3⟩ := gq hl
      rw [if_pos c45, if_pos c45, if_pos c45, if_pos c45, if_pos c45, g3]
      have N := num_eq T (LO := 0) (HI := 300) (dg := 3) (by omega) (by decide) (by decide) (by decide) (by decide) g1 gz.1
      rw [show nI 0 = 0 from rfl, show nI 300 = 300 from rfl] at N
      generalize sX1_readNumber (upd q 1 (q 1 + 1)) tq sg 3 0 300 = C1 at N ⊢
      generalize sX8_figures (upd (upd z 11 (nI (p + 1))) 13 1) tx (p + 1) 3 0 300 = R1 at N ⊢
      exact pr_sub N g2 gz.2 rfl rfl (by omega) (by omega) (fun ⟨V, v1, v2, _⟩ => by
        show -_ = -_
        rw [v1, v2])
    · rw [if_neg c45, if_neg c45, if_neg c45, if_neg c45, if_neg c45]
      have em : sX1_moveIf q 0 = upd q 2 1 := if_pos rfl
      rw [em]
      have r2 : RDR (upd q 2 1) p 1 := ⟨by rw [pk_un (by decide)]; exact h1.1, pk_us⟩
      have r : RFR (upd (upd z 11 (nI (p + 0))) 13 0) p 0 sz := ⟨by rw [pk_un (by decide), pk_us]; rfl, pk_us, by rw [pk_un (by decide), pk_un (by decide)]; exact h2.2.2⟩
      obtain ⟨n1, n2⟩ := num_bad (sz := sz) (tq := tq) (sg := sg) (tx := tx) (lo := 0) (hi := 200) (dg := 3) (by decide) (by decide) r2 r
      refine ⟨?_, ?_, Or.inl ⟨p, Nat.le_refl _, hp, ?_, ?_⟩⟩
      · show K12 q (sX1_readNumber (upd q 2 1) tq sg 3 0 200).2
        rw [n1]
        exact fun k k1 k2 => by rw [pk_un k2, pk_un k2]
      · show K113 z (sX8_figures (upd (upd z 11 (nI (p + 0))) 13 0) tx p 3 0 200).2
        rw [n2]
        exact fun k k1 k2 => by rw [pk_un k2, pk_un k1]
      · show RDR (sX1_readNumber (upd q 2 1) tq sg 3 0 200).2 p 1
        rw [n1]
        exact ⟨by rw [pk_un (by decide), pk_un (by decide)]; exact h1.1, pk_us⟩
      · show RFR (sX8_figures (upd (upd z 11 (nI (p + 0))) 13 0) tx p 3 0 200).2 p 0 sz
        rw [n2]; exact r
end P20
