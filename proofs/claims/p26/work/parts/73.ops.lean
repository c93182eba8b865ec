/-! PURE: the questions, as values -/
theorem sim_c {g4 u4 g u : Nat → Int32} {rv4 rv : Nat → Nat → Int32} {sd : Int64} {y : Int32} {lc : Int64 → Int64} {hi : Int64 → Int32} {z1 : (Nat → Int32) × (Nat → Int32) × (Nat → Nat → Int32)} : ∀ (d i : Nat) (x1 : Int64) (g1 u1 : Nat → Int32) (rv1 : Nat → Nat → Int32), (lp_X7_simulate_39 g4 u4 rv4 g u rv sd y lc hi z1 d i x1 g1 u1 rv1).1 = 0
  | 0, _, _, _, _, _ => rfl
  | d + 1, i, x1, g1, u1, rv1 => sim_c d (i + 1) _ _ _ _
section P73
variable {f g u : Nat → Int32} {rv : Nat → Nat → Int32} {B m cc : Nat} {g4 u4 : Nat → Int32} {rv4 : Nat → Nat → Int32}
theorem k_about (sr : SM f g u rv) (ok : OKs B m f) (w : Int32) : xr (sX7_about g u rv w).1 (sX7_about g u rv w).2 = qAbout f w := by
  obtain ⟨E, -⟩ := op_about (q := zz) (tx := zz) (ft := zz) (dy := zz) (kp := zz) (ik := zz) (jb := zz) sr ok w
  unfold qAbout
  by_cases hA : sX8_in w.toInt64 0 10 = 0
  · have eR : sX8_about zz zz f zz zz zz zz zz w = (0, upd zz 0 1) := if_pos hA
    rw [if_pos hA]
    have h := xr_one E (by rw [eR]; dsimp only; exact pk_us)
    rw [h]; rfl
  · rw [if_neg hA]
    refine xr_eq E ?_
    have eR : sX8_about zz zz f zz zz zz zz zz w = (if (3 : Int32) ≤ w then (if w = 3 then ((sX8_minutesLeft f), (upd zz 0 0)) else ((f (w.toNatClampNeg - 1)), (upd zz 0 0))) else ((f w.toNatClampNeg), (upd zz 0 0))) := if_neg hA
    rw [eR]
    (repeat' split) <;> (dsimp only; exact pk_us)
theorem k_setting (sr : SM f g u rv) (x : Int32) : xr (sX7_setting g u rv x).1 (sX7_setting g u rv x).2 = qSet f x := by
  obtain ⟨E, -⟩ := op_setting (q := zz) (tx := zz) (ft := zz) (dy := zz) (kp := zz) (ik := zz) (jb := zz) sr x
  unfold qSet
  by_cases hA : sX8_in x.toInt64 0 5 = 0
  · have eR : sX8_setting zz zz f zz zz zz zz zz x = (0, upd zz 0 1) := if_pos hA
    rw [if_pos hA]
    have h := xr_one E (by rw [eR]; dsimp only; exact pk_us)
    rw [h]; rfl
  · rw [if_neg hA]
    have eR : sX8_setting zz zz f zz zz zz zz zz x = (f (10 + x.toNatClampNeg), upd zz 0 0) := if_neg hA
    have h := xr_eq E (by rw [eR]; dsimp only; exact pk_us)
    rw [h, eR]
theorem k_room (sr : SM f g u rv) (ok : OKs B m f) (x y : Int32) : xr (sX7_room g u rv x y).1 (sX7_room g u rv x y).2 = qRoom f x y := by
  have z0 : (0 : Int32).toInt = 0 := rfl
  have z5 : (7 : Int32).toInt = 7 := rfl
  unfold qRoom
  by_cases hR : sX8_isRoom f x = 0
  · have eC : sX7_room g u rv x y = (3, 0) := oe_n (roomAt_n sr ok hR)
    rw [if_pos hR, eC]; rfl
  · rw [if_neg hR]
    obtain ⟨hk, hk6⟩ := isr_n ok hR
    have eC : sX7_room g u rv x y = (if y < 0 then (1, 0) else (if y ≤ 7 then (0, (sX2_property (rv x.toNatClampNeg) y)) else (1, 0))) := oe_s (roomAt_s sr ok hR)
    by_cases hA : sX8_in y.toInt64 0 7 = 0
    · have hb := (in32 (a := 0) (b := 7) rfl rfl).mp hA
      have eC' : sX7_room g u rv x y = (1, 0) := by
        rw [eC]
        by_cases h0 : y < 0
        · rw [if_pos h0]
        · rw [if_neg h0]
          have h5 : ¬ y ≤ 7 := fun h => by
            rw [le_i, z5] at h
            rw [lt_i, z0] at h0
            omega
          rw [if_neg h5]
      rw [if_pos hA, eC']; rfl
    · have hb : 0 ≤ y.toInt ∧ y.toInt ≤ 7 := lv_at0 (fun h => hA ((in32 (a := 0) (b := 7) rfl rfl).mpr h))
      have h0 : ¬ y < 0 := fun h => by
        rw [lt_i, z0] at h
        omega
      have h5 : y ≤ 7 := by
        rw [le_i, z5]; omega
      rw [if_neg hA, eC, if_neg h0, if_pos h5]
      exact prop_eq sr ok hk6 hb
theorem k_does (hB : B ≤ 100000) (sr : SM f g u rv) (ok : OKs B m f) (x : Int32) : xr (sX7_does g u rv x).1 (sX7_does g u rv x).2.1 = qDoes f x ∧ SM f g u (sX7_does g u rv x).2.2 := by
  obtain ⟨E, S, -⟩ := op_does (q := zz) (tx := zz) (ft := zz) (dy := zz) (kp := zz) (ik := zz) (jb := zz) hB sr ok x
  refine ⟨?_, S⟩
  unfold qDoes JB
  rw [mF_of ok]
  by_cases hR : sX8_isRoom f x = 0
  · have eR : sX8_does zz zz f zz zz zz zz zz m x = (0, upd zz 0 1, zz) := if_pos hR
    rw [if_pos hR]
    have h := xr_one E (by rw [eR]; dsimp only; exact pk_us)
    rw [h]; rfl
  · rw [if_neg hR]
    obtain ⟨hk, hk6⟩ := isr_n ok hR
    have eC : sX7_does g u rv x = sX7_does_z_3 g u rv x x.toNatClampNeg (sX5_planMinute g u rv) := oe_s (roomAt_s sr ok hR)
    obtain ⟨p1, p2, p3, p4, p5, p6⟩ := find_eq hB sr ok zz zz
    rw [eC]
    exact (p3 _ hk).2
theorem k_spare (hB : B ≤ 100000) (sr : SM f g u rv) (ok : OKs B m f) : sX7_spare g u rv = qSpare f := (op_spare (q := zz) (tx := zz) (ft := zz) (dy := zz) (kp := zz) (ik := zz) (jb := zz) hB sr ok).1
theorem k_best (hB : B ≤ 99000) (n0 : N0 rv4) (sr : SM f g u rv) (ok : OKs B m f) : (sX7_bestShut g4 u4 rv4 g u rv).1 = qBest f ∧ N0 (sX7_bestShut g4 u4 rv4 g u rv).2.2.2 := by
  obtain ⟨E, -, N, -⟩ := op_best (q := zz) (tx := zz) (ft := zz) (dy := zz) (kp := zz) (ik := zz) (jb := zz) (g4 := g4) (u4 := u4) hB n0 sr ok
  unfold qBest
  rw [mF_of ok]
  exact ⟨E, N⟩
theorem k_simulate (hB : B ≤ 95000) (n0 : N0 rv4) (sr : SM f g u rv) (ok : OKs B m f) (sd : Int64) (y : Int32) : xr (sX7_simulate g4 u4 rv4 g u rv sd y lcg hi31).1 (sX7_simulate g4 u4 rv4 g u rv sd y lcg hi31).2.1 = qSim f sd y ∧ N0 (sX7_simulate g4 u4 rv4 g u rv sd y lcg hi31).2.2.2.2 := by
  obtain ⟨E, N, -⟩ := op_simulate (q := zz) (tx := zz) (ft := zz) (dy := zz) (kp := zz) (ik := zz) (jb := zz) (g4 := g4) (u4 := u4) hB n0 sr ok (lc := lcg) (hi := hi31) sh_nn sd y
  refine ⟨?_, N⟩
  unfold qSim
  rw [mF_of ok]
  by_cases hA : sX8_in y.toInt64 1 60 = 0
  · rw [if_pos hA]
    have eR : sX8_simulate zz zz f zz zz zz zz zz m sd y lcg hi31 = (0, upd zz 0 1, zz, zz) := if_pos hA
    have h := xr_one E (by rw [eR]; dsimp only; exact pk_us)
    rw [h]; rfl
  · rw [if_neg hA]
    have hb : 1 ≤ y.toInt ∧ y.toInt ≤ 60 := lv_at0 (fun h => hA ((in32 (a := 1) (b := 60) rfl rfl).mpr h))
    have z1' : (1 : Int32).toInt = 1 := rfl
    have z6 : (60 : Int32).toInt = 60 := rfl
    have h0 : ¬ y < 1 := fun h => by
      rw [lt_i, z1'] at h
      omega
    have h5 : y ≤ 60 := by
      rw [le_i, z6]; omega
    have eC : sX7_simulate g4 u4 rv4 g u rv sd y lcg hi31 = sX7_simulate_z_1 g4 u4 rv4 g u rv sd y lcg hi31 (sX5_copyFrom g4 u4 rv4 g u rv) := by
      unfold sX7_simulate
      rw [if_neg h0, if_pos h5]
    have hcd : (sX7_simulate g4 u4 rv4 g u rv sd y lcg hi31).1 = 0 := by
      rw [eC]
      exact sim_c _ _ _ _ _ _
    exact xr_eq E (E.1.trans (by rw [hcd]; rfl))
end P73
