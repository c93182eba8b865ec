/-! PURE: a script, a simulation -/
theorem cmp_lt0 {v : Int64} : lg_cmp v 0 < 0 ↔ v.toInt < 0 := by
  have z : (0 : Int64).toInt = 0 := rfl
  unfold lg_cmp
  by_cases h : v > 0
  · rw [if_pos h]
    have h' : (0 : Int64) < v := h
    rw [Int64.lt_iff_toInt_lt, z] at h'
    exact ⟨fun q => absurd q (by decide), fun q => by omega⟩
  · rw [if_neg h]
    have h' : ¬ (0 : Int64) < v := h
    rw [Int64.lt_iff_toInt_lt, z] at h'
    by_cases h0 : v = 0
    · rw [if_pos h0, h0]
      exact ⟨fun q => absurd q (by decide), fun q => absurd q (by decide)⟩
    · rw [if_neg h0]
      have hn : ¬ v.toInt = 0 := fun q => h0 (Int64.toInt_inj.mp (q.trans z.symm))
      exact ⟨fun _ => by omega, fun _ => by decide⟩
theorem cmp_eq0 {v : Int64} : lg_cmp v 0 = 0 ↔ v.toInt = 0 := by
  have z : (0 : Int64).toInt = 0 := rfl
  unfold lg_cmp
  by_cases h : v > 0
  · rw [if_pos h]
    have h' : (0 : Int64) < v := h
    rw [Int64.lt_iff_toInt_lt, z] at h'
    exact ⟨fun q => absurd q (by decide), fun q => by omega⟩
  · rw [if_neg h]
    by_cases h0 : v = 0
    · rw [if_pos h0, h0]
      exact ⟨fun _ => rfl, fun _ => rfl⟩
    · rw [if_neg h0]
      exact ⟨fun q => absurd q (by decide), fun q => absurd (Int64.toInt_inj.mp (q.trans z.symm)) h0⟩
theorem dl {w c : Int64} {b k : Nat} (hc : c.toInt = (k : Int)) (hk : 0 < k) (h : w.toInt = (b : Int)) : (w / c).toInt = ((b / k : Nat) : Int) := by
  have hl := Int64.toInt_lt w
  have hle : b / k ≤ b := Nat.div_le_self b k
  rw [Int64.toInt_div, h, hc, ← Int.ofNat_tdiv]
  have h0 : (0 : Int) ≤ ((b / k : Nat) : Int) := Int.natCast_nonneg _
  have h1 : ((b / k : Nat) : Int) ≤ (b : Int) := by omega
  rw [h] at hl
  rw [Int.bmod_eq_of_le] <;> omega
theorem dg {w : Int64} {b : Nat} (h : w.toInt = (b : Int)) : (w - w / 100000 * 100000).toInt32 = nI (b % 100000) := by
  have hl := Int64.toInt_lt w
  rw [h] at hl
  have h1 := dl (c := 100000) (k := 100000) rfl (by decide) h
  have hm : (w / 100000 * 100000).toInt = ((b / 100000 * 100000 : Nat) : Int) := by
    have e : (100000 : Int64).toInt = 100000 := rfl
    rw [Int64.toInt_mul, h1, e]
    rw [Int.bmod_eq_of_le] <;> omega
  have hs : (w - w / 100000 * 100000).toInt = ((b % 100000 : Nat) : Int) := by
    rw [Int64.toInt_sub, h, hm]
    rw [Int.bmod_eq_of_le] <;> omega
  refine Int32.toInt_inj.mp ?_
  rw [Int64.toInt_toInt32, hs, nI_i (by omega)]
  rw [Int.bmod_eq_of_le] <;> omega
theorem wg_lp {x : Int64} {y : Int32} : ∀ (d i : Nat) (al : Int64) (a : Nat), al.toInt = (a : Int) → (lp_X7_withoutGroups_5 x y d i al).toInt = ((a / 100000 ^ d : Nat) : Int)
  | 0, i, al, a, h => by
    rw [Nat.pow_zero, Nat.div_one]; exact h
  | d + 1, i, al, a, h => by
    have := wg_lp (x := x) (y := y) d (i + 1) (al / 100000) (a / 100000) (dl (c := 100000) (k := 100000) rfl (by decide) h)
    rw [Nat.div_div_eq_div_mul, ← Nat.pow_add_one'] at this
    exact this
theorem wg_eq {sc : Int64} {a d : Nat} (h : sc.toInt = (a : Int)) (hd : d < 10) : (sX7_withoutGroups sc (nI d)).toInt = ((a / 100000 ^ d : Nat) : Int) := by
  unfold sX7_withoutGroups
  rw [tn_d hd]
  exact wg_lp d 0 sc a h
theorem P5_v {d : Nat} (hd : d < 4) : (P5 d).toInt = ((100000 ^ d : Nat) : Int) ∧ (d < 3 → P5 (d + 1) / 100000 = P5 d) := by
  have : d = 0 ∨ d = 1 ∨ d = 2 ∨ d = 3 := by omega
  rcases this with h | h | h | h <;> subst h
  · exact ⟨by decide, fun _ => by decide⟩
  · exact ⟨by decide, fun _ => by decide⟩
  · exact ⟨by decide, fun _ => by decide⟩
  · exact ⟨by decide, fun q => absurd q (by decide)⟩
section P17
variable {f g u g4 u4 : Nat → Int32} {rv rv4 : Nat → Nat → Int32} {B m : Nat} {q tx ft dy kp ik jb : Nat → Int32}
theorem run_loop {x : Int32} {sc : Int64} {a Y : Nat} {al : Int64} {j : Nat} {z1 : (Nat → Int32) × (Nat → Int32) × (Nat → Nat → Int32)} {z : Nat → Int32} (hx : x = nI Y) (hY : Y ≤ 3) (hs : sc.toInt = (a : Int)) : ∀ (d i Bc : Nat) (g1 u1 : Nat → Int32) (rv1 : Nat → Nat → Int32) (q1 jb1 ft1 : Nat → Int32), i + d = Y → Bc + 60 * d ≤ 99000 → SM ft1 g1 u1 rv1 → OKs Bc m ft1 →
    (lp_X7_runScript_51 g4 u4 rv4 g u rv x sc z1 d i g1 u1 rv1).1 = 0 ∧ (lp_X7_runScript_51 g4 u4 rv4 g u rv x sc z1 d i g1 u1 rv1).2.1 = (lp_X8_runScript_86 q tx f ft dy kp ik jb m x sc al j z d i (P5 d) q1 jb1 ft1).1 ∧ N0 (lp_X7_runScript_51 g4 u4 rv4 g u rv x sc z1 d i g1 u1 rv1).2.2.2.2 ∧ QK q1 (lp_X8_runScript_86 q tx f ft dy kp ik jb m x sc al j z d i (P5 d) q1 jb1 ft1).2.1
  | 0, i, Bc, g1, u1, rv1, q1, jb1, ft1, hd, hB, s1, o1 => ⟨rfl, rfl, s1.2.2.1, fun _ _ => rfl⟩
  | d + 1, i, Bc, g1, u1, rv1, q1, jb1, ft1, hd, hB, s1, o1 => by
    have eP : P5 (d + 1) / 100000 = P5 d := (P5_v (by omega)).2 (by omega)
    have eX : x - 1 - nI i = nI d := by
      rw [hx]
      have e1 : nI Y - nI 1 = nI (Y - 1) := sbI (by omega) (by omega)
      have e2 : nI (Y - 1) - nI i = nI (Y - 1 - i) := sbI (by omega) (by omega)
      show nI Y - nI 1 - nI i = nI d
      rw [e1, e2]
      congr 1; omega
    have eG : ((sX7_withoutGroups sc (nI d)) - (sX7_withoutGroups sc (nI d)) / 100000 * 100000).toInt32 = nI (a / 100000 ^ d % 100000) := dg (wg_eq hs (by omega))
    have eH : (sc / P5 d - sc / P5 d / 100000 * 100000).toInt32 = nI (a / 100000 ^ d % 100000) := dg (dl (P5_v (by omega)).1 (Nat.pow_pos (by decide)) hs)
    have hn : a / 100000 ^ d % 100000 < 100000 := Nat.mod_lt _ (by decide)
    generalize a / 100000 ^ d % 100000 = n at eG eH hn
    have eC : lp_X7_runScript_51 g4 u4 rv4 g u rv x sc z1 (d + 1) i g1 u1 rv1 = (if (sX7_doGroup g1 u1 rv1 (nI n)).1 = 0 then (0, (nI i), (sX7_doGroup g1 u1 rv1 (nI n)).2.1, (sX7_doGroup g1 u1 rv1 (nI n)).2.2.1, (sX7_doGroup g1 u1 rv1 (nI n)).2.2.2) else (lp_X7_runScript_51 g4 u4 rv4 g u rv x sc z1 d (i + 1) (sX7_doGroup g1 u1 rv1 (nI n)).2.1 (sX7_doGroup g1 u1 rv1 (nI n)).2.2.1 (sX7_doGroup g1 u1 rv1 (nI n)).2.2.2)) := by
      rw [← eG, ← eX]; rfl
    have eR : lp_X8_runScript_86 q tx f ft dy kp ik jb m x sc al j z (d + 1) i (P5 (d + 1)) q1 jb1 ft1 = ((fun (z_2 : Int32 × (Nat → Int32) × (Nat → Int32) × (Nat → Int32)) => (if z_2.1 = 0 then ((nI i), z_2.2.1, z_2.2.2.1, z_2.2.2.2) else (lp_X8_runScript_86 q tx f ft dy kp ik jb m x sc al j z d (i + 1) (P5 d) z_2.2.1 z_2.2.2.2 z_2.2.2.1))) (sX8_command q1 tx f ft1 dy kp ik jb1 (nI n / 10000) (nI n - nI n / 10000 * 10000) m)) := by
      rw [← eH, ← eP]; rfl
    obtain ⟨k1, k2, k3, k4⟩ := grp (f := f) (q := q1) (tx := tx) (dy := dy) (kp := kp) (ik := ik) (jb := jb1) (by omega) s1 o1 hn
    rw [eC, eR]
    generalize sX8_command q1 tx f ft1 dy kp ik jb1 (nI n / 10000) (nI n - nI n / 10000 * 10000) m = z2 at k1 k2 k3 k4 ⊢
    generalize sX7_doGroup g1 u1 rv1 (nI n) = y2 at k1 k2 ⊢
    dsimp only
    rw [k1]
    by_cases hz : z2.1 = 0
    · rw [if_pos hz, if_pos hz]
      exact ⟨rfl, rfl, k2.2.2.1, k4⟩
    · rw [if_neg hz, if_neg hz]
      obtain ⟨r1, r2, r3, r4⟩ := run_loop hx hY hs d (i + 1) (Bc + 60) y2.2.1 y2.2.2.1 y2.2.2.2 z2.2.1 z2.2.2.2 z2.2.2.1 (by omega) (by omega) k2 k3
      exact ⟨r1, r2, r3, k4.trans r4⟩
theorem rs_no {y : Int32} {sc : Int64} (h : sX8_in y.toInt64 1 3 = 0) : ∀ (d i : Nat) (al : Int64), lp_X8_runScript_6 q tx f ft dy kp ik jb m y sc d i al = (0, upd q 0 1, ft, jb)
  | 0, i, al => if_pos h
  | d + 1, i, al => by
    show (if y ≤ nI i then sX8_runScript_x32 q tx f ft dy kp ik jb m y sc al i else lp_X8_runScript_6 q tx f ft dy kp ik jb m y sc d (i + 1) (al * 100000)) = _
    rw [rs_no h d]
    by_cases hy : y ≤ nI i
    · rw [if_pos hy]; exact if_pos h
    · rw [if_neg hy]
theorem rs_al {Y : Nat} (h1 : 1 ≤ Y) (h3 : Y ≤ 3) {sc : Int64} : sX8_runScript q tx f ft dy kp ik jb m (nI Y) sc = sX8_runScript_x32 q tx f ft dy kp ik jb m (nI Y) sc (P5 Y) Y := by
  have hY : Y = 1 ∨ Y = 2 ∨ Y = 3 := by omega
  have st : ∀ (d i : Nat) (al : Int64), lp_X8_runScript_6 q tx f ft dy kp ik jb m (nI Y) sc (d + 1) i al = (if nI Y ≤ nI i then sX8_runScript_x32 q tx f ft dy kp ik jb m (nI Y) sc al i else lp_X8_runScript_6 q tx f ft dy kp ik jb m (nI Y) sc d (i + 1) (al * 100000)) := fun _ _ _ => rfl
  have z : ∀ (i : Nat) (al : Int64), lp_X8_runScript_6 q tx f ft dy kp ik jb m (nI Y) sc 0 i al = sX8_runScript_x32 q tx f ft dy kp ik jb m (nI Y) sc al i := fun _ _ => rfl
  unfold sX8_runScript
  rcases hY with h | h | h <;> subst h
  · rw [st 2, if_neg (by decide), st 1, if_pos (by decide)]; rfl
  · rw [st 2, if_neg (by decide), st 1, if_neg (by decide), st 0, if_pos (by decide)]; rfl
  · rw [st 2, if_neg (by decide), st 1, if_neg (by decide), st 0, if_neg (by decide), z]; rfl
theorem op_script (hB : B ≤ 98000) (n0 : N0 rv4) (sr : SM f g u rv) (ok : OKs B m f) (x : Int32) (sc : Int64) :
    EQOP 1 (sX7_runScript g4 u4 rv4 g u rv x sc).1 (sX7_runScript g4 u4 rv4 g u rv x sc).2.1 ((sX8_runScript q tx f ft dy kp ik jb m x sc).2.1 0) (sX8_runScript q tx f ft dy kp ik jb m x sc).1 ∧ N0 (sX7_runScript g4 u4 rv4 g u rv x sc).2.2.2.2 ∧ KR q (sX8_runScript q tx f ft dy kp ik jb m x sc).2.1 := by
  have z1' : (1 : Int32).toInt = 1 := rfl
  have z3 : (3 : Int32).toInt = 3 := rfl
  have bad : sX7_runScript g4 u4 rv4 g u rv x sc = (1, 0, g4, u4, rv4) → sX8_runScript q tx f ft dy kp ik jb m x sc = (0, upd q 0 1, ft, jb) → EQOP 1 (sX7_runScript g4 u4 rv4 g u rv x sc).1 (sX7_runScript g4 u4 rv4 g u rv x sc).2.1 ((sX8_runScript q tx f ft dy kp ik jb m x sc).2.1 0) (sX8_runScript q tx f ft dy kp ik jb m x sc).1 ∧ N0 (sX7_runScript g4 u4 rv4 g u rv x sc).2.2.2.2 ∧ KR q (sX8_runScript q tx f ft dy kp ik jb m x sc).2.1 := fun eC eR => by
    rw [eC, eR]
    dsimp only
    exact ⟨⟨pk_us, fun h => absurd h (by decide)⟩, n0, KR.one q 1⟩
  by_cases hA : sX8_in x.toInt64 1 3 = 0
  · have hb := (in32 (a := 1) (b := 3) rfl rfl).mp hA
    refine bad ?_ (rs_no hA 3 0 1)
    unfold sX7_runScript
    by_cases h0 : x < 1
    · rw [if_pos h0]
    · rw [if_neg h0]
      have h5 : 3 < x := by
        rw [lt_i, z3]
        rw [lt_i, z1'] at h0
        omega
      rw [if_pos h5]
  · have hb : 1 ≤ x.toInt ∧ x.toInt ≤ 3 := lv_at0 (fun h => hA ((in32 (a := 1) (b := 3) rfl rfl).mpr h))
    have h0 : ¬ x < 1 := fun h => by
      rw [lt_i, z1'] at h
      omega
    have h5 : ¬ 3 < x := fun h => by
      rw [lt_i, z3] at h
      omega
    obtain ⟨Y, hY⟩ : ∃ Y, Y = x.toInt.toNat := ⟨_, rfl⟩
    have hx : x = nI Y := Int32.toInt_inj.mp (by rw [nI_i (by omega)]; omega)
    have hY1 : 1 ≤ Y := by omega
    have hY3 : Y ≤ 3 := by omega
    have eA : sX8_runScript q tx f ft dy kp ik jb m x sc = sX8_runScript_x32 q tx f ft dy kp ik jb m x sc (P5 Y) Y := by
      rw [hx]; exact rs_al hY1 hY3
    have hP : (P5 Y - 1).toInt = ((100000 ^ Y : Nat) : Int) - 1 := by
      have : Y = 1 ∨ Y = 2 ∨ Y = 3 := by omega
      rcases this with h | h | h <;> rw [h] <;> decide
    have z0 : (0 : Int64).toInt = 0 := rfl
    have hin : ¬ sX8_in sc 0 (P5 Y - 1) = 0 ↔ (0 ≤ sc.toInt ∧ sc.toInt ≤ ((100000 ^ Y : Nat) : Int) - 1) := by
      rw [in_iff, Int64.le_iff_toInt_le, Int64.le_iff_toInt_le, z0, hP]
    have eC : sX7_runScript g4 u4 rv4 g u rv x sc = (if (lg_cmp sc 0) < 0 then (1, 0, g4, u4, rv4) else (if (lg_cmp (sX7_withoutGroups sc x) 0) = 0 then (sX7_runScript_z_1 g4 u4 rv4 g u rv x sc (sX5_copyFrom g4 u4 rv4 g u rv)) else (1, 0, g4, u4, rv4))) := by
      unfold sX7_runScript
      rw [if_neg h0, if_neg h5]
    have eR : sX8_runScript q tx f ft dy kp ik jb m x sc = (if (sX8_in sc 0 (P5 Y - 1)) = 0 then (0, (upd q 0 1), ft, jb) else (sX8_runScript_z_1 q tx f ft dy kp ik jb m x sc (P5 Y) Y (sX8_copyState 0 0 f ft))) := by
      rw [eA]
      unfold sX8_runScript_x32
      rw [if_neg hA]
    by_cases hn : sc.toInt < 0
    · refine bad ?_ ?_
      · rw [eC, if_pos (cmp_lt0.mpr hn)]
      · rw [eR, if_pos (Classical.byContradiction (fun q => by
          have := hin.mp q
          omega))]
    · obtain ⟨a, ha⟩ : ∃ a : Nat, sc.toInt = (a : Int) := ⟨sc.toInt.toNat, by omega⟩
      have hw : (sX7_withoutGroups sc x).toInt = ((a / 100000 ^ Y : Nat) : Int) := by
        rw [hx]; exact wg_eq ha (by omega)
      have hpos : 0 < 100000 ^ Y := Nat.pow_pos (by decide)
      have hlt : a / 100000 ^ Y = 0 ↔ a < 100000 ^ Y := by
        constructor
        · intro h
          rcases Nat.div_eq_zero_iff.mp h with h | h
          · omega
          · exact h
        · exact fun h => Nat.div_eq_of_lt h
      generalize hQ : a / 100000 ^ Y = Q at hw hlt
      generalize hT : 100000 ^ Y = T at hpos hlt hin hP
      by_cases hs : a < T
      · have hc : lg_cmp (sX7_withoutGroups sc x) 0 = 0 := cmp_eq0.mpr (by rw [hw, hlt.mpr hs]; rfl)
        rw [if_neg (fun q => hn (cmp_lt0.mp q)), if_pos hc] at eC
        rw [if_neg (hin.mpr (by omega))] at eR
        obtain ⟨t1, t2, t3⟩ := tr_start (g4 := g4) (u4 := u4) (ft := ft) n0 sr ok
        generalize sX5_copyFrom g4 u4 rv4 g u rv = z1 at t1 eC
        generalize sX8_copyState 0 0 f ft = F at t1 t2 t3 eR
        have eN : x.toNatClampNeg = Y := by rw [hx]; exact tn_d (by omega)
        have eC' : sX7_runScript g4 u4 rv4 g u rv x sc = lp_X7_runScript_51 g4 u4 rv4 g u rv x sc z1 Y 0 z1.1 z1.2.1 z1.2.2 := by
          rw [eC]
          unfold sX7_runScript_z_1
          rw [eN]
        have eR' : sX8_runScript q tx f ft dy kp ik jb m x sc = lp_X8_runScript_86 q tx f ft dy kp ik jb m x sc (P5 Y) Y F Y 0 (P5 Y) (upd q 0 0) jb F := by
          rw [eR]
          unfold sX8_runScript_z_1
          rw [eN]
        obtain ⟨r1, r2, r3, r4⟩ := run_loop (g := g) (u := u) (g4 := g4) (u4 := u4) (rv := rv) (rv4 := rv4) (f := f) (q := q) (tx := tx) (ft := ft) (dy := dy) (kp := kp) (ik := ik) (jb := jb) (al := P5 Y) (j := Y) (z := F) (z1 := z1) hx hY3 ha Y 0 B z1.1 z1.2.1 z1.2.2 (upd q 0 0) jb F (by omega) (by omega) t1 t2
        rw [eC', eR']
        generalize lp_X8_runScript_86 q tx f ft dy kp ik jb m x sc (P5 Y) Y F Y 0 (P5 Y) (upd q 0 0) jb F = zR at r2 r4 ⊢
        generalize lp_X7_runScript_51 g4 u4 rv4 g u rv x sc z1 Y 0 z1.1 z1.2.1 z1.2.2 = zC at r1 r2 r3 ⊢
        exact ⟨⟨by rw [r1, r4 0 (by decide)]; exact pk_us, fun _ => r2⟩, r3, KR.qk r4⟩
      · have hc : ¬ lg_cmp (sX7_withoutGroups sc x) 0 = 0 := fun q => by
          have := cmp_eq0.mp q
          rw [hw] at this
          exact hs (hlt.mp (by omega))
        refine bad ?_ ?_
        · rw [eC, if_neg (fun q => hn (cmp_lt0.mp q)), if_neg hc]
        · rw [eR, if_pos (Classical.byContradiction (fun q => by
            have := hin.mp q
            omega))]
end P17
