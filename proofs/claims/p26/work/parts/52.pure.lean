/-! PURE: find -/
section P3
variable {f g u : Nat → Int32} {rv : Nat → Nat → Int32} {B m : Nat}
theorem fit_c (hB : B ≤ 100000) (sr : SM f g u rv) (ok : OKs B m f) {q : Nat → Int32} {t k : Int32} (ht : t = q 10) (h0 : 0 ≤ t.toInt) (h1 : t.toInt ≤ 300) (hk0 : 0 ≤ k.toInt) (hk1 : k.toInt ≤ 50) {α : Type} (a b : α) :
    (if sX5_spareKilowatts g u < t + k then a else b) = (if sX8_fits q f k = 0 then a else b) := by
  subst ht
  by_cases h : sX8_fits q f k = 0
  · rw [if_pos h, if_pos ((spare_lt hB sr ok h0 h1 hk0 hk1).mpr h)]
  · rw [if_neg h, if_neg (fun q => h ((spare_lt hB sr ok h0 h1 hk0 hk1).mp q))]
theorem cod_if {c : Prop} [Decidable c] {x y : Int32} (h1 : cod x) (h2 : cod y) : cod (if c then x else y) := by
  by_cases h : c
  · rw [if_pos h]; exact h1
  · rw [if_neg h]; exact h2
theorem cod_3 : cod 3 := Or.inr (Or.inr (Or.inr (Or.inl rfl)))
theorem cod_4 : cod 4 := Or.inr (Or.inr (Or.inr (Or.inr (Or.inl rfl))))
theorem cod_5 : cod 5 := Or.inr (Or.inr (Or.inr (Or.inr (Or.inr (Or.inl rfl)))))
theorem cod_6 : cod 6 := Or.inr (Or.inr (Or.inr (Or.inr (Or.inr (Or.inr (Or.inl rfl))))))
theorem n8_if {c : Prop} [Decidable c] {x y : Int32} (h1 : ¬ x = 8) (h2 : ¬ y = 8) : ¬ (if c then x else y) = 8 := by
  by_cases h : c
  · rw [if_pos h]; exact h1
  · rw [if_neg h]; exact h2
theorem tk_if {c : Prop} [Decidable c] (t k : Int32) : (if c then t else t + k) = t + (if c then 0 else k) := by
  by_cases h : c
  · rw [if_pos h, if_pos h, Int32.add_zero]
  · rw [if_neg h, if_neg h]
theorem b0_if {c : Prop} [Decidable c] {k : Int32} (h0 : 0 ≤ k.toInt) (h1 : k.toInt ≤ 50) : 0 ≤ (if c then 0 else k : Int32).toInt ∧ (if c then 0 else k : Int32).toInt ≤ 50 := by
  have e0 : (0 : Int32).toInt = 0 := rfl
  by_cases h : c
  · rw [if_pos h, e0]; omega
  · rw [if_neg h]; omega
theorem comp_eq (hB : B ≤ 100000) (sr : SM f g u rv) (ok : OKs B m f) (q jb : Nat → Int32) (z1 : (Nat → Int32) × (Nat → Int32)) (t0 : Int32) (rv0 : Nat → Nat → Int32) : ∀ (d i : Nat) (t : Int32) (rv1 : Nat → Nat → Int32) (q1 jb1 : Nat → Int32), oc jb1 m ≤ d → H9 rv rv1 → JP m rv1 jb1 → t = q1 10 → 0 ≤ t.toInt → t.toInt + 50 * (oc jb1 m : Int) ≤ 50 * (m : Int) →
    ∃ q2 jb2 : Nat → Int32, lp_X8_find_16 q jb f m z1 (d + 1) (sX8_nextWarm jb1 f m) q1 jb1 = sX8_find_x80 q jb f m z1 q2 jb2 ∧ (lp_X5_planCompressors_5 g u rv0 t0 (sX5_spareKilowatts g u) d i t rv1).1 = q2 10 ∧ H9 rv (lp_X5_planCompressors_5 g u rv0 t0 (sX5_spareKilowatts g u) d i t rv1).2 ∧ JP m (lp_X5_planCompressors_5 g u rv0 t0 (sX5_spareKilowatts g u) d i t rv1).2 jb2 ∧ 0 ≤ (q2 10).toInt ∧ (q2 10).toInt + 50 * (oc jb2 m : Int) ≤ 50 * (m : Int)
  | 0, i, t, rv1, q1, jb1, hd, h9, jp, ht, h0, hb => by
    have hn : sX8_nextWarm jb1 f m = none := by
      cases hw : sX8_nextWarm jb1 f m with
      | none => rfl
      | some k =>
        obtain ⟨h1, h2⟩ := mnw_spec hw
        have := oc_pos h1 h2
        omega
    rw [hn]
    exact ⟨q1, jb1, rfl, ht, h9, jp, by rw [← ht]; exact h0, by rw [← ht]; exact hb⟩
  | d + 1, i, t, rv1, q1, jb1, hd, h9, jp, ht, h0, hb => by
    have hm := ok.1
    have hc : sX5_nextToCool g u rv1 = sX8_nextWarm jb1 f m := cool_eq sr hm h9 jp 6 0 none 0 rfl (fun _ => rfl) (fun k h => by cases h)
    cases hw : sX8_nextWarm jb1 f m with
    | none =>
      have e : lp_X5_planCompressors_5 g u rv0 t0 (sX5_spareKilowatts g u) (d + 1) i t rv1 = (t, rv1) := by
        show oe (sX5_nextToCool g u rv1) (t, rv1) _ = _
        rw [hc, hw]; rfl
      rw [e]
      exact ⟨q1, jb1, rfl, ht, h9, jp, by rw [← ht]; exact h0, by rw [← ht]; exact hb⟩
    | some k =>
      obtain ⟨hk1, hk8⟩ := mnw_spec hw
      have hk6 : k < 6 := by omega
      have hld := (ok.2.2.2.2.2.2.2.2.2.2 k hk6).1 hk1
      have e1 : rv1 k 1 = sX8_of f k 0 := sr.at h9 hk6 (w := 0) (by decide)
      have hl0 : 1 ≤ (sX8_of f k 0).toInt ∧ (sX8_of f k 0).toInt ≤ 50 := hld
      have hoc1 := oc_pos hk1 hk8
      have fc := fun {α : Type} (a b : α) => fit_c hB sr ok ht h0 (by omega) (show 0 ≤ (sX8_of f k 0).toInt by omega) hl0.2 a b
      have e : lp_X5_planCompressors_5 g u rv0 t0 (sX5_spareKilowatts g u) (d + 1) i t rv1 = lp_X5_planCompressors_5 g u rv0 t0 (sX5_spareKilowatts g u) d (i + 1) (t + (if sX8_fits q1 f (sX8_of f k 0) = 0 then 0 else sX8_of f k 0)) (updR rv1 k (upd (rv1 k) 9 (if sX8_fits q1 f (sX8_of f k 0) = 0 then 4 else 3))) := by
        show oe (sX5_nextToCool g u rv1) (t, rv1) (fun k_2 => lp_X5_planCompressors_5 g u rv0 t0 (sX5_spareKilowatts g u) d (i + 1) (if sX5_spareKilowatts g u < (t + ((rv1 k_2) 1)) then t else (t + ((rv1 k_2) 1))) (updR rv1 k_2 (upd (rv1 k_2) 9 (if sX5_spareKilowatts g u < (t + ((rv1 k_2) 1)) then 4 else 3)))) = _
        rw [hc, hw]
        show lp_X5_planCompressors_5 g u rv0 t0 (sX5_spareKilowatts g u) d (i + 1) (if sX5_spareKilowatts g u < (t + ((rv1 k) 1)) then t else (t + ((rv1 k) 1))) (updR rv1 k (upd (rv1 k) 9 (if sX5_spareKilowatts g u < (t + ((rv1 k) 1)) then 4 else 3))) = _
        rw [e1, fc, fc, tk_if]
      rw [e]
      obtain ⟨b0, b1⟩ := b0_if (c := sX8_fits q1 f (sX8_of f k 0) = 0) (show 0 ≤ (sX8_of f k 0).toInt by omega) hl0.2
      have hod := oc_dec (x := (if sX8_fits q1 f (sX8_of f k 0) = 0 then 4 else 3 : Int32)) hk1 hk8 (n8_if (by decide) (by decide))
      have eT : (t + (if sX8_fits q1 f (sX8_of f k 0) = 0 then 0 else sX8_of f k 0)).toInt = t.toInt + (if sX8_fits q1 f (sX8_of f k 0) = 0 then 0 else sX8_of f k 0 : Int32).toInt := ia (by omega) (by omega)
      exact comp_eq hB sr ok q jb z1 t0 rv0 d (i + 1) _ _ (upd q1 10 (q1 10 + (if sX8_fits q1 f (sX8_of f k 0) = 0 then 0 else sX8_of f k 0))) (upd jb1 k (if sX8_fits q1 f (sX8_of f k 0) = 0 then 4 else 3)) (by omega) (h9.up k _) (jp.up hk1 (cod_if cod_4 cod_3) (n8_if (by decide) (by decide))) (by rw [pk_us, ht]) (by rw [eT]; omega) (by rw [eT]; omega)
theorem defr_eq (hB : B ≤ 100000) (sr : SM f g u rv) (ok : OKs B m f) (q jb : Nat → Int32) (z1 : (Nat → Int32) × (Nat → Int32)) (q0 jb0 : Nat → Int32) (t0 : Int32) (rv0 : Nat → Nat → Int32) : ∀ (d i : Nat) (t : Int32) (rv1 : Nat → Nat → Int32) (q1 jb1 : Nat → Int32), oc jb1 m ≤ d → H9 rv rv1 → JP m rv1 jb1 → t = q1 10 → 0 ≤ t.toInt → t.toInt + 50 * (oc jb1 m : Int) ≤ 50 * (m : Int) →
    ∃ q2 jb2 : Nat → Int32, lp_X8_find_86 q jb f m z1 q0 jb0 (d + 1) (sX8_nextFrost jb1 f m) q1 jb1 = sX8_find_x147 q jb f m z1 q0 jb0 q2 jb2 ∧ (lp_X5_planDefrosts_5 g u rv0 t0 (sX5_spareKilowatts g u) d i t rv1).1 = q2 10 ∧ H9 rv (lp_X5_planDefrosts_5 g u rv0 t0 (sX5_spareKilowatts g u) d i t rv1).2 ∧ JP m (lp_X5_planDefrosts_5 g u rv0 t0 (sX5_spareKilowatts g u) d i t rv1).2 jb2 ∧ 0 ≤ (q2 10).toInt ∧ (q2 10).toInt + 50 * (oc jb2 m : Int) ≤ 50 * (m : Int)
  | 0, i, t, rv1, q1, jb1, hd, h9, jp, ht, h0, hb => by
    have hn : sX8_nextFrost jb1 f m = none := by
      cases hw : sX8_nextFrost jb1 f m with
      | none => rfl
      | some k =>
        obtain ⟨h1, h2⟩ := mnf_spec hw
        have := oc_pos h1 h2
        omega
    rw [hn]
    exact ⟨q1, jb1, rfl, ht, h9, jp, by rw [← ht]; exact h0, by rw [← ht]; exact hb⟩
  | d + 1, i, t, rv1, q1, jb1, hd, h9, jp, ht, h0, hb => by
    have hm := ok.1
    have e4 : u 4 = f 14 := sr.2.1 4 (by decide)
    have e3 : u 3 = f 13 := sr.2.1 3 (by decide)
    have hc : sX5_nextToDefrost g u rv1 = sX8_nextFrost jb1 f m := frost_eq sr ok h9 jp 6 0 none _ rfl (fun _ => by rw [e4]) (fun k h => by cases h)
    obtain ⟨h13, h13'⟩ := ok.2.2.2.2.2.1
    cases hw : sX8_nextFrost jb1 f m with
    | none =>
      have e : lp_X5_planDefrosts_5 g u rv0 t0 (sX5_spareKilowatts g u) (d + 1) i t rv1 = (t, rv1) := by
        show oe (sX5_nextToDefrost g u rv1) (t, rv1) _ = _
        rw [hc, hw]; rfl
      rw [e]
      exact ⟨q1, jb1, rfl, ht, h9, jp, by rw [← ht]; exact h0, by rw [← ht]; exact hb⟩
    | some k =>
      obtain ⟨hk1, hk8⟩ := mnf_spec hw
      have hoc1 := oc_pos hk1 hk8
      have fc := fun {α : Type} (a b : α) => fit_c hB sr ok ht h0 (by omega) (show 0 ≤ (f 13).toInt by omega) h13' a b
      have e : lp_X5_planDefrosts_5 g u rv0 t0 (sX5_spareKilowatts g u) (d + 1) i t rv1 = lp_X5_planDefrosts_5 g u rv0 t0 (sX5_spareKilowatts g u) d (i + 1) (t + (if sX8_fits q1 f (f 13) = 0 then 0 else f 13)) (updR rv1 k (upd (rv1 k) 9 (if sX8_fits q1 f (f 13) = 0 then 6 else 5))) := by
        show oe (sX5_nextToDefrost g u rv1) (t, rv1) (fun k_2 => lp_X5_planDefrosts_5 g u rv0 t0 (sX5_spareKilowatts g u) d (i + 1) (if sX5_spareKilowatts g u < (t + (u 3)) then t else (t + (u 3))) (updR rv1 k_2 (upd (rv1 k_2) 9 (if sX5_spareKilowatts g u < (t + (u 3)) then 6 else 5)))) = _
        rw [hc, hw]
        show lp_X5_planDefrosts_5 g u rv0 t0 (sX5_spareKilowatts g u) d (i + 1) (if sX5_spareKilowatts g u < (t + (u 3)) then t else (t + (u 3))) (updR rv1 k (upd (rv1 k) 9 (if sX5_spareKilowatts g u < (t + (u 3)) then 6 else 5))) = _
        rw [e3, fc, fc, tk_if]
      rw [e]
      obtain ⟨b0, b1⟩ := b0_if (c := sX8_fits q1 f (f 13) = 0) (show 0 ≤ (f 13).toInt by omega) h13'
      have hod := oc_dec (x := (if sX8_fits q1 f (f 13) = 0 then 6 else 5 : Int32)) hk1 hk8 (n8_if (by decide) (by decide))
      have eT : (t + (if sX8_fits q1 f (f 13) = 0 then 0 else f 13)).toInt = t.toInt + (if sX8_fits q1 f (f 13) = 0 then 0 else f 13 : Int32).toInt := ia (by omega) (by omega)
      exact defr_eq hB sr ok q jb z1 q0 jb0 t0 rv0 d (i + 1) _ _ (upd q1 10 (q1 10 + (if sX8_fits q1 f (f 13) = 0 then 0 else f 13))) (upd jb1 k (if sX8_fits q1 f (f 13) = 0 then 6 else 5)) (by omega) (h9.up k _) (jp.up hk1 (cod_if cod_6 cod_5) (n8_if (by decide) (by decide))) (by rw [pk_us, ht]) (by rw [eT]; omega) (by rw [eT]; omega)
/-- open jobs become nothing -/
theorem conv_eq (q jb : Nat → Int32) (z1 : (Nat → Int32) × (Nat → Int32)) (q2 jb2 q3 jb3 : Nat → Int32) : ∀ (d i : Nat) (jb1 : Nat → Int32), i + d = m → (lp_X8_find_149 q jb f m z1 q2 jb2 q3 jb3 d i jb1).1 = q3 ∧ ∀ j, j < m → (lp_X8_find_149 q jb f m z1 q2 jb2 q3 jb3 d i jb1).2 j = if i ≤ j then pl (jb1 j) else jb1 j
  | 0, i, jb1, hd => ⟨rfl, fun j hj => by
      rw [if_neg (by omega)]; rfl⟩
  | d + 1, i, jb1, hd => by
    obtain ⟨h1, h2⟩ := conv_eq q jb z1 q2 jb2 q3 jb3 d (i + 1) (upd jb1 i (if jb1 i = 8 then 7 else jb1 i)) (by omega)
    refine ⟨h1, fun j hj => ?_⟩
    have h3 := h2 j hj
    show (lp_X8_find_149 q jb f m z1 q2 jb2 q3 jb3 d (i + 1) (upd jb1 i (if jb1 i = 8 then 7 else jb1 i))).2 j = _
    rw [h3]
    by_cases hij : j = i
    · subst hij
      rw [if_neg (by omega), if_pos (Nat.le_refl _), pk_us]; rfl
    · rw [pk_un hij]
      by_cases hle : i ≤ j
      · rw [if_pos hle, if_pos (by omega)]
      · rw [if_neg hle, if_neg (by omega)]
def cod7 (x : Int32) : Prop := x = 0 ∨ x = 1 ∨ x = 2 ∨ x = 3 ∨ x = 4 ∨ x = 5 ∨ x = 6 ∨ x = 7
theorem cod_pl {x : Int32} (h : cod x) : cod7 (pl x) := by
  rcases h with h | h | h | h | h | h | h | h <;> rw [h] <;> simp [cod7, pl]
/-- what the plan of a minute is, on both sides -/
theorem find_eq (hB : B ≤ 100000) (sr : SM f g u rv) (ok : OKs B m f) (q jb : Nat → Int32) :
    (sX5_planMinute g u rv).1 = (sX8_find q jb f m).1 10 ∧ H9 rv (sX5_planMinute g u rv).2 ∧ (∀ j, j < m → cod7 ((sX8_find q jb f m).2 j) ∧ (sX5_planMinute g u rv).2 j 9 = (sX8_find q jb f m).2 j) ∧ (∀ j, m ≤ j → j < 6 → (sX5_planMinute g u rv).2 j 9 = 8) ∧ 0 ≤ (sX5_planMinute g u rv).1.toInt ∧ (sX5_planMinute g u rv).1.toInt ≤ 300 := by
  have hm := ok.1
  obtain ⟨a1, a2, a3, a4, a5⟩ := must_eq sr ok (upd q 10 0) jb 6 0 0 rv (upd q 10 0) jb rfl (fun _ _ _ => rfl) (by rw [pk_us]) (fun j h => absurd h (Nat.not_lt_zero j)) (fun j _ h => absurd h (Nat.not_lt_zero j)) (by decide) (fun n hn => by
    have : n = 0 := by omega
    subst this
    show (0 : Int) + 50 * ((0 : Nat) : Int) ≤ 50 * ((0 : Nat) : Int)
    decide)
  rw [Nat.sub_zero] at a1 a3 a5
  have hz : lp_X8_must_2 (upd q 10 0) jb f m m 0 (upd q 10 0) jb = sX8_must (upd q 10 0) jb f m := rfl
  have hy : lp_X5_planMusts_13 g u rv 6 0 0 rv = sX5_planMusts g u rv := rfl
  rw [hz, hy] at a1 a3 a5
  rw [hy] at a2 a4
  obtain ⟨q2, jb2, b1, b2, b3, b4, b5, b6⟩ := comp_eq hB sr ok q jb (sX8_must (upd q 10 0) jb f m) (sX5_planMusts g u rv).1 (sX5_planMusts g u rv).2 6 0 (sX5_planMusts g u rv).1 (sX5_planMusts g u rv).2 (sX8_must (upd q 10 0) jb f m).1 (sX8_must (upd q 10 0) jb f m).2 (by have := oc_le (sX8_must (upd q 10 0) jb f m).2 m; omega) a2 a3 a1 a4 a5
  have hc : lp_X5_planCompressors_5 g u (sX5_planMusts g u rv).2 (sX5_planMusts g u rv).1 (sX5_spareKilowatts g u) 6 0 (sX5_planMusts g u rv).1 (sX5_planMusts g u rv).2 = sX5_planCompressors g u (sX5_planMusts g u rv).2 (sX5_planMusts g u rv).1 (sX5_spareKilowatts g u) := rfl
  rw [hc] at b2 b3 b4
  generalize sX5_planCompressors g u (sX5_planMusts g u rv).2 (sX5_planMusts g u rv).1 (sX5_spareKilowatts g u) = zc at b2 b3 b4 hc
  obtain ⟨q3, jb3, c1, c2, c3, c4, c5, c6⟩ := defr_eq hB sr ok q jb (sX8_must (upd q 10 0) jb f m) q2 jb2 zc.1 zc.2 6 0 zc.1 zc.2 q2 jb2 (by have := oc_le jb2 m; omega) b3 b4 b2 (by rw [b2]; exact b5) (by rw [b2]; exact b6)
  have eM : sX8_find q jb f m = lp_X8_find_149 q jb f m (sX8_must (upd q 10 0) jb f m) q2 jb2 q3 jb3 m 0 jb3 := by
    have h1 : sX8_find q jb f m = lp_X8_find_16 q jb f m (sX8_must (upd q 10 0) jb f m) 7 (sX8_nextWarm (sX8_must (upd q 10 0) jb f m).2 f m) (sX8_must (upd q 10 0) jb f m).1 (sX8_must (upd q 10 0) jb f m).2 := rfl
    rw [h1, b1]
    exact c1
  have eC : sX5_planMinute g u rv = ((lp_X5_planDefrosts_5 g u zc.2 zc.1 (sX5_spareKilowatts g u) 6 0 zc.1 zc.2).1, (lp_X5_planDefrosts_5 g u zc.2 zc.1 (sX5_spareKilowatts g u) 6 0 zc.1 zc.2).2) := by
    rw [← hc]; rfl
  obtain ⟨d1, d2⟩ := conv_eq (m := m) (f := f) q jb (sX8_must (upd q 10 0) jb f m) q2 jb2 q3 jb3 m 0 jb3 (Nat.zero_add _)
  rw [eC, eM]
  refine ⟨by rw [d1]; exact c2, c3, fun j hj => ?_, c4.2, ?_, ?_⟩
  · rw [d2 j hj, if_pos (Nat.zero_le _)]
    exact ⟨cod_pl (c4.1 j hj).1, (c4.1 j hj).2⟩
  · show 0 ≤ (lp_X5_planDefrosts_5 g u zc.2 zc.1 (sX5_spareKilowatts g u) 6 0 zc.1 zc.2).1.toInt
    rw [c2]; exact c5
  · show (lp_X5_planDefrosts_5 g u zc.2 zc.1 (sX5_spareKilowatts g u) 6 0 zc.1 zc.2).1.toInt ≤ 300
    rw [c2]; omega
end P3
