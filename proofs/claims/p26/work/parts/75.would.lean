/-! PURE: what would be, as values -/
section P75
variable {f g u : Nat → Int32} {rv : Nat → Nat → Int32} {B m cc : Nat} {g4 u4 : Nat → Int32} {rv4 : Nat → Nat → Int32} {q tq sg : Nat → Int32}
theorem k_append_no (x : Int32) (h : x < 0 ∨ 255 < x) : sX7_append q tq sg x = (1, 0, tq, sg) := by
  unfold sX7_append
  rcases h with h | h
  · rw [if_pos h]
  · by_cases h0 : x < 0
    · rw [if_pos h0]
    · rw [if_neg h0, if_neg (Int32.not_le.mpr h)]
theorem k_script_0 (sc : Int64) : sX7_runScript g4 u4 rv4 g u rv 0 sc = (1, 0, g4, u4, rv4) := rfl
theorem k_script_1 {sc : Int64} {a : Nat} (h : sc.toInt = (a : Int)) (ha : 100000 ≤ a) : sX7_runScript g4 u4 rv4 g u rv 1 sc = (1, 0, g4, u4, rv4) := by
  have e := wg_eq (d := 1) h (by decide)
  have hn : ¬ lg_cmp (sX7_withoutGroups sc 1) 0 = 0 := fun z => by
    have z2 := cmp_eq0.mp z
    have e1 : nI 1 = 1 := rfl
    rw [e1, z2] at e
    have e2 : a / 100000 ^ 1 = 0 := by omega
    rw [Nat.pow_one] at e2
    omega
  unfold sX7_runScript
  rw [if_neg (by decide), if_neg (by decide)]
  by_cases c : lg_cmp sc 0 < 0
  · rw [if_pos c]
  · rw [if_neg c, if_neg hn]
theorem k_coming_no (x y : Int32) (h : sX8_in x.toInt64 1 240 = 0 ∨ sX8_in y.toInt64 0 4 = 0) : sX7_coming g4 u4 rv4 g u rv x y = (1, 0, g4, u4, rv4) := by
  have z0 : (0 : Int32).toInt = 0 := rfl
  have z1' : (1 : Int32).toInt = 1 := rfl
  have z4 : (4 : Int32).toInt = 4 := rfl
  have z240 : (240 : Int32).toInt = 240 := rfl
  unfold sX7_coming
  by_cases h0 : x < 1
  · rw [if_pos h0]
  · rw [if_neg h0]
    by_cases h1 : 240 < x
    · rw [if_pos h1]
    · rw [if_neg h1]
      by_cases h2 : y < 0
      · rw [if_pos h2]
      · rw [if_neg h2]
        have h3 : ¬ y ≤ 4 := fun h3 => by
          rw [lt_i, z1'] at h0
          rw [lt_i, z240] at h1
          rw [lt_i, z0] at h2
          rw [le_i, z4] at h3
          rcases h with h | h
          · exact (in32 (a := 1) (b := 240) rfl rfl).mp h (by omega)
          · exact (in32 (a := 0) (b := 4) rfl rfl).mp h (by omega)
        rw [if_neg h3]
theorem com_1 (n0 : N0 rv4) (hB : B ≤ 99000) (sr : SM f g u rv) (ok : OKs B m f) : ∃ (z2 : (Nat → Int32) × (Nat → Nat → Int32)) (u2 : Nat → Int32), SM (RUNF f 1) z2.1 u2 z2.2 ∧ ∀ y, lp_X7_coming_44 g4 u4 rv4 g u rv 1 y (sX5_copyFrom g4 u4 rv4 g u rv) 1 0 (sX5_copyFrom g4 u4 rv4 g u rv).1 (sX5_copyFrom g4 u4 rv4 g u rv).2.2 = cfin g y u2 z2 := by
  have c1 := cf_sm (g := g4) (u := u4) sr n0
  generalize sX5_copyFrom g4 u4 rv4 g u rv = z1 at c1 ⊢
  obtain ⟨i1, -⟩ := it_eq 1 B z1.1 z1.2.2 zz zz f (by omega) c1 ok
  have e : RUNF f 1 = (mit m 1 (zz, zz, f)).2.2 := by unfold RUNF; rw [mF_of ok]
  rw [e]
  exact ⟨cit z1.2.1 1 (z1.1, z1.2.2), z1.2.1, i1, fun y => com_cit 1 0 z1.1 z1.2.2⟩
theorem k_coming (n0 : N0 rv4) (hB : B ≤ 99000) (sr : SM f g u rv) (ok : OKs B m f) : ∀ y : Int32, (y = 0 ∨ y = 3) → (sX7_coming g4 u4 rv4 g u rv 1 y).1 = 0 ∧ (sX7_coming g4 u4 rv4 g u rv 1 y).2.1 = (if y = 0 then RUNF f 1 5 - f 5 else RUNF f 1 7 - f 7) ∧ N0 (sX7_coming g4 u4 rv4 g u rv 1 y).2.2.2.2 := by
  intro y hy
  obtain ⟨z2, u2, s2, e2⟩ := com_1 (g4 := g4) (u4 := u4) n0 hB sr ok
  have eC : sX7_coming g4 u4 rv4 g u rv 1 y = cfin g y u2 z2 := by
    rw [← e2 y]
    unfold sX7_coming
    rw [if_neg (by decide), if_neg (by decide)]
    rcases hy with h | h <;> subst h <;> rfl
  rw [eC]
  rcases hy with h | h <;> subst h
  · refine ⟨rfl, ?_, s2.2.2.1⟩
    show z2.1 5 - g 5 = RUNF f 1 5 - f 5
    rw [s2.1 5 (by decide) (by decide), sr.1 5 (by decide) (by decide)]
  · refine ⟨rfl, ?_, s2.2.2.1⟩
    show z2.1 7 - g 7 = RUNF f 1 7 - f 7
    rw [s2.1 7 (by decide) (by decide), sr.1 7 (by decide) (by decide)]
/-- when a room is too warm: now, behind one minute, or later -/
def WP (f : RW) (i : Nat) (r : Int32) : Prop := (¬ RUNF f 1 (16 + 8 * i + 3) < RUNF f 1 (16 + 8 * i + 2) → r = 0 ∨ r = 1) ∧ (RUNF f 1 (16 + 8 * i + 3) < RUNF f 1 (16 + 8 * i + 2) → ¬ r = 1)
theorem warm_far {x : Int32} {k : Nat} {z1 : (Nat → Int32) × (Nat → Int32) × (Nat → Nat → Int32)} (hk : k < 6) : ∀ (d i Bc : Nat) (g1 : Nat → Int32) (rv1 : Nat → Nat → Int32) (f1 : Nat → Int32), Bc + d ≤ 100000 → SM f1 g1 z1.2.1 rv1 → OKs Bc m f1 → i + d ≤ 100000 →
    (lp_X7_warmIn_36 g4 u4 rv4 g u rv x z1 k d i g1 rv1).1 = 0 ∧ ((lp_X7_warmIn_36 g4 u4 rv4 g u rv x z1 k d i g1 rv1).2.1 = -1 ∨ ∃ j, i ≤ j ∧ j ≤ i + d ∧ (lp_X7_warmIn_36 g4 u4 rv4 g u rv x z1 k d i g1 rv1).2.1 = nI j) ∧ N0 (lp_X7_warmIn_36 g4 u4 rv4 g u rv x z1 k d i g1 rv1).2.2.2.2
  | 0, i, Bc, g1, rv1, f1, hB, s1, o1, hi => by
    have eC : lp_X7_warmIn_36 g4 u4 rv4 g u rv x z1 k 0 i g1 rv1 = (if (sX2_isWarm (rv1 k)) = 0 then (0, (-1), g1, z1.2.1, rv1) else (0, (nI i), g1, z1.2.1, rv1)) := rfl
    rw [eC]
    by_cases h : sX2_isWarm (rv1 k) = 0
    · rw [if_pos h]; exact ⟨rfl, Or.inl rfl, s1.2.2.1⟩
    · rw [if_neg h]; exact ⟨rfl, Or.inr ⟨i, Nat.le_refl _, Nat.le_refl _, rfl⟩, s1.2.2.1⟩
  | d + 1, i, Bc, g1, rv1, f1, hB, s1, o1, hi => by
    have eC : lp_X7_warmIn_36 g4 u4 rv4 g u rv x z1 k (d + 1) i g1 rv1 = (if (sX2_isWarm (rv1 k)) = 0 then lp_X7_warmIn_36 g4 u4 rv4 g u rv x z1 k d (i + 1) (sX5_passMinute g1 z1.2.1 rv1).1 (sX5_passMinute g1 z1.2.1 rv1).2 else (if (sX2_isWarm (rv1 k)) = 0 then (0, (-1), g1, z1.2.1, rv1) else (0, (nI i), g1, z1.2.1, rv1))) := rfl
    obtain ⟨i1, i2, -⟩ := minute_eq (by omega) s1 o1 zz zz
    rw [eC]
    by_cases h : sX2_isWarm (rv1 k) = 0
    · rw [if_pos h]
      obtain ⟨r1, r2, r3⟩ := warm_far hk d (i + 1) (Bc + 1) _ _ _ (by omega) i1 i2 (by omega)
      refine ⟨r1, ?_, r3⟩
      rcases r2 with r2 | ⟨j, j1, j2, j3⟩
      · exact Or.inl r2
      · exact Or.inr ⟨j, by omega, by omega, j3⟩
    · rw [if_neg h, if_neg h]; exact ⟨rfl, Or.inr ⟨i, Nat.le_refl _, by omega, rfl⟩, s1.2.2.1⟩
theorem k_warm_no (n0 : N0 rv4) (sr : SM f g u rv) (ok : OKs B m f) (x : Int32) (hR : sX8_isRoom f x = 0) : (sX7_warmIn g4 u4 rv4 g u rv x).1 = 3 ∧ N0 (sX7_warmIn g4 u4 rv4 g u rv x).2.2.2.2 := by
  have c1 := cf_sm (g := g4) (u := u4) sr n0
  have eC : sX7_warmIn g4 u4 rv4 g u rv x = (3, 0, (sX5_copyFrom g4 u4 rv4 g u rv).1, (sX5_copyFrom g4 u4 rv4 g u rv).2.1, (sX5_copyFrom g4 u4 rv4 g u rv).2.2) := oe_n (roomAt_n c1 ok hR)
  rw [eC]
  exact ⟨rfl, c1.2.2.1⟩
theorem k_warm (n0 : N0 rv4) (hB : B ≤ 99000) (sr : SM f g u rv) (ok : OKs B m f) (x : Int32) (hR : ¬ sX8_isRoom f x = 0) : (sX7_warmIn g4 u4 rv4 g u rv x).1 = 0 ∧ WP f x.toNatClampNeg (sX7_warmIn g4 u4 rv4 g u rv x).2.1 ∧ N0 (sX7_warmIn g4 u4 rv4 g u rv x).2.2.2.2 := by
  obtain ⟨hk, hk6⟩ := isr_n ok hR
  have c1 := cf_sm (g := g4) (u := u4) sr n0
  have eC : sX7_warmIn g4 u4 rv4 g u rv x = lp_X7_warmIn_36 g4 u4 rv4 g u rv x (sX5_copyFrom g4 u4 rv4 g u rv) x.toNatClampNeg (238 + 1 + 1) 0 (sX5_copyFrom g4 u4 rv4 g u rv).1 (sX5_copyFrom g4 u4 rv4 g u rv).2.2 := oe_s (roomAt_s c1 ok hR)
  rw [eC]
  generalize sX5_copyFrom g4 u4 rv4 g u rv = z1 at c1 ⊢
  generalize x.toNatClampNeg = k at hk hk6 ⊢
  obtain ⟨i1, i2, -⟩ := minute_eq (by omega) c1 ok zz zz
  have eR : RUNF f 1 = (sX8_minuteOn zz zz f m).2.2 := by unfold RUNF; rw [mF_of ok]; rfl
  have e0 : lp_X7_warmIn_36 g4 u4 rv4 g u rv x z1 k (238 + 1 + 1) 0 z1.1 z1.2.2 = (if (sX2_isWarm (z1.2.2 k)) = 0 then lp_X7_warmIn_36 g4 u4 rv4 g u rv x z1 k (238 + 1) 1 (sX5_passMinute z1.1 z1.2.1 z1.2.2).1 (sX5_passMinute z1.1 z1.2.1 z1.2.2).2 else (if (sX2_isWarm (z1.2.2 k)) = 0 then (0, (-1), z1.1, z1.2.1, z1.2.2) else (0, (nI 0), z1.1, z1.2.1, z1.2.2))) := rfl
  rw [e0]
  unfold WP
  rw [eR]
  by_cases h : sX2_isWarm (z1.2.2 k) = 0
  · rw [if_pos h]
    generalize sX5_passMinute z1.1 z1.2.1 z1.2.2 = z2 at i1 ⊢
    generalize (sX8_minuteOn zz zz f m).2.2 = f2 at i1 i2 ⊢
    have e1 : lp_X7_warmIn_36 g4 u4 rv4 g u rv x z1 k (238 + 1) 1 z2.1 z2.2 = (if (sX2_isWarm (z2.2 k)) = 0 then lp_X7_warmIn_36 g4 u4 rv4 g u rv x z1 k 238 2 (sX5_passMinute z2.1 z1.2.1 z2.2).1 (sX5_passMinute z2.1 z1.2.1 z2.2).2 else (if (sX2_isWarm (z2.2 k)) = 0 then (0, (-1), z2.1, z1.2.1, z2.2) else (0, (nI 1), z2.1, z1.2.1, z2.2))) := rfl
    have ew := warm_e i1 hk6
    rw [e1]
    by_cases h2 : sX2_isWarm (z2.2 k) = 0
    · rw [if_pos h2]
      have hlt : f2 (16 + 8 * k + 3) < f2 (16 + 8 * k + 2) := by
        rw [ew] at h2
        unfold sX8_isWarm sX8_of at h2
        by_cases c : f2 (16 + 8 * k + 3) < f2 (16 + 8 * k + 2)
        · exact c
        · rw [if_neg c] at h2; exact absurd h2 (by decide)
      obtain ⟨j1, j2, -⟩ := minute_eq (by omega) i1 i2 zz zz
      obtain ⟨r1, r2, r3⟩ := warm_far (g4 := g4) (u4 := u4) (rv4 := rv4) (g := g) (u := u) (rv := rv) (x := x) (z1 := z1) hk6 238 2 (B + 1 + 1) _ _ _ (by omega) j1 j2 (by omega)
      refine ⟨r1, ⟨fun h9 => absurd hlt h9, fun _ h9 => ?_⟩, r3⟩
      rcases r2 with r2 | ⟨j, q1, q2, q3⟩
      · exact absurd (r2.symm.trans h9) (by decide)
      · have := nI_inj (a := j) (b := 1) (by omega) (by decide) (q3.symm.trans h9)
        omega
    · rw [if_neg h2, if_neg h2]
      have hlt : ¬ f2 (16 + 8 * k + 3) < f2 (16 + 8 * k + 2) := fun c => by
        rw [ew] at h2
        unfold sX8_isWarm sX8_of at h2
        rw [if_pos c] at h2; exact h2 rfl
      exact ⟨rfl, ⟨fun _ => Or.inr rfl, fun h9 => absurd h9 hlt⟩, i1.2.2.1⟩
  · rw [if_neg h, if_neg h]
    exact ⟨rfl, ⟨fun _ => Or.inl rfl, fun _ h9 => absurd h9 (show ¬ nI 0 = 1 by decide)⟩, c1.2.2.1⟩
/-- the least limit: kept, and none below it is -/
def KEPT (f : RW) (n k : Nat) : Prop := RUNF (upd f 10 (nI (100 * k))) n 3 = f 3
def LEAST (f : RW) (n : Nat) (r : Int32) : Prop := (r = -1 ∧ ∀ k, k < 100 → ¬ KEPT f n k) ∨ ∃ k, k < 100 ∧ r = nI (100 * k) ∧ KEPT f n k ∧ ∀ j, j < k → ¬ KEPT f n j
theorem cs_id (f : RW) : sX8_copyState 0 0 f f = f := by
  funext x
  by_cases h : x < 64
  · have := cp_in (p0 := 0) (q0 := 0) (f := f) (f2 := f) h
    rw [Nat.zero_add] at this
    exact this
  · exact cp_out (Or.inr (by omega))
theorem kept_f (hB : B ≤ 99000) (n0 : N0 rv4) (sr : SM f g u rv) (ok : OKs B m f) {x : Int32} (hx : x.toNatClampNeg ≤ 60) {k : Nat} (hk : k < 100) : ((sX7_isKept g4 u4 rv4 g u rv (nI (100 * k)) x).1 = 0 ↔ ¬ KEPT f x.toNatClampNeg k) ∧ N0 (sX7_isKept g4 u4 rv4 g u rv (nI (100 * k)) x).2.2.2 := by
  obtain ⟨k1, k2, -⟩ := kept_eq (g4 := g4) (u4 := u4) (ft := f) hB n0 sr ok hx hk zz zz
  have e : (sX8_runOn zz zz (upd (sX8_copyState 0 0 f f) 10 (nI (100 * k))) x m).2.2.2 = RUNF (upd f 10 (nI (100 * k))) x.toNatClampNeg := by
    rw [cs_id]
    have hm : mF (upd f 10 (nI (100 * k))) = m := by
      unfold mF
      rw [pk_un (by decide)]; exact mF_of ok
    unfold RUNF
    rw [hm]
    have hR : sX8_runOn zz zz (upd f 10 (nI (100 * k))) x m = ((mit m x.toNatClampNeg (zz, zz, upd f 10 (nI (100 * k)))).2.2 5 - upd f 10 (nI (100 * k)) 5, (mit m x.toNatClampNeg (zz, zz, upd f 10 (nI (100 * k)))).1, (mit m x.toNatClampNeg (zz, zz, upd f 10 (nI (100 * k)))).2.1, (mit m x.toNatClampNeg (zz, zz, upd f 10 (nI (100 * k)))).2.2) := rn_mit x.toNatClampNeg 0 zz zz (upd f 10 (nI (100 * k)))
    rw [hR]
  rw [e] at k1
  refine ⟨?_, k2⟩
  rw [k1]
  unfold KEPT
  by_cases c : RUNF (upd f 10 (nI (100 * k))) x.toNatClampNeg 3 = f 3
  · rw [if_pos c]; exact ⟨fun z => absurd z (by decide), fun z => absurd c z⟩
  · rw [if_neg c]; exact ⟨fun _ => c, fun _ => rfl⟩
theorem least_f (hB : B ≤ 99000) (sr : SM f g u rv) (ok : OKs B m f) {x : Int32} (hx : x.toNatClampNeg ≤ 60) : ∀ (d i : Nat) (g1 u1 : Nat → Int32) (rv1 : Nat → Nat → Int32), i + d = 100 → N0 rv1 → (∀ j, j < i → ¬ KEPT f x.toNatClampNeg j) →
    (lp_X7_leastLimit_19 g4 u4 rv4 g u rv x d (100 * i) g1 u1 rv1).1 = 0 ∧ LEAST f x.toNatClampNeg (lp_X7_leastLimit_19 g4 u4 rv4 g u rv x d (100 * i) g1 u1 rv1).2.1 ∧ N0 (lp_X7_leastLimit_19 g4 u4 rv4 g u rv x d (100 * i) g1 u1 rv1).2.2.2.2
  | 0, i, g1, u1, rv1, hd, n1, hj => ⟨rfl, Or.inl ⟨rfl, fun k hk => hj k (by omega)⟩, n1⟩
  | d + 1, i, g1, u1, rv1, hd, n1, hj => by
    obtain ⟨k1, k2⟩ := kept_f (g4 := g1) (u4 := u1) hB n1 sr ok hx (k := i) (by omega)
    have eC : lp_X7_leastLimit_19 g4 u4 rv4 g u rv x (d + 1) (100 * i) g1 u1 rv1 = (if (sX7_isKept g1 u1 rv1 g u rv (nI (100 * i)) x).1 = 0 then (lp_X7_leastLimit_19 g4 u4 rv4 g u rv x d (100 * i + 100) (sX7_isKept g1 u1 rv1 g u rv (nI (100 * i)) x).2.1 (sX7_isKept g1 u1 rv1 g u rv (nI (100 * i)) x).2.2.1 (sX7_isKept g1 u1 rv1 g u rv (nI (100 * i)) x).2.2.2) else (0, (nI (100 * i)), (sX7_isKept g1 u1 rv1 g u rv (nI (100 * i)) x).2.1, (sX7_isKept g1 u1 rv1 g u rv (nI (100 * i)) x).2.2.1, (sX7_isKept g1 u1 rv1 g u rv (nI (100 * i)) x).2.2.2)) := rfl
    rw [eC]
    generalize sX7_isKept g1 u1 rv1 g u rv (nI (100 * i)) x = y2 at k1 k2 ⊢
    by_cases h : y2.1 = 0
    · rw [if_pos h]
      have hn := k1.mp h
      exact least_f hB sr ok hx d (i + 1) y2.2.1 y2.2.2.1 y2.2.2.2 (by omega) k2 (fun j hj2 => by
        by_cases e : j = i
        · subst e; exact hn
        · exact hj j (by omega))
    · rw [if_neg h]
      have hk : KEPT f x.toNatClampNeg i := Classical.not_not.mp (fun z => h (k1.mpr z))
      exact ⟨rfl, Or.inr ⟨i, by omega, rfl, hk, hj⟩, k2⟩
theorem k_least_no (x : Int32) (h : sX8_in x.toInt64 1 60 = 0) : sX7_leastLimit g4 u4 rv4 g u rv x = (1, 0, g4, u4, rv4) := if_pos ((pass_iff x).mpr h)
theorem k_least (n0 : N0 rv4) (hB : B ≤ 99000) (sr : SM f g u rv) (ok : OKs B m f) (x : Int32) (hb : 1 ≤ x.toInt ∧ x.toInt ≤ 60) : (sX7_leastLimit g4 u4 rv4 g u rv x).1 = 0 ∧ LEAST f x.toNatClampNeg (sX7_leastLimit g4 u4 rv4 g u rv x).2.1 ∧ N0 (sX7_leastLimit g4 u4 rv4 g u rv x).2.2.2.2 := by
  have hA : ¬ sX8_in x.toInt64 1 60 = 0 := fun h => (in32 (a := 1) (b := 60) rfl rfl).mp h hb
  have hA' : ¬ sX5_canPass x = 0 := fun h => hA ((pass_iff x).mp h)
  have hn : x.toNatClampNeg ≤ 60 := by rw [tc_n]; omega
  have eC : sX7_leastLimit g4 u4 rv4 g u rv x = lp_X7_leastLimit_19 g4 u4 rv4 g u rv x 100 (100 * 0) g4 u4 rv4 := if_neg hA'
  rw [eC]
  exact least_f hB sr ok hn 100 0 g4 u4 rv4 rfl n0 (fun j h => absurd h (Nat.not_lt_zero j))
end P75
