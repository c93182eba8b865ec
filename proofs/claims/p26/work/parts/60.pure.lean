/-! PURE: the operations that only read -/
def KR (q q' : Nat → Int32) : Prop := ∀ x, x ≠ 0 → x ≠ 10 → q' x = q x
def TXT (tq sg : Nat → Int32) (q2 : Int32) (tx : Nat → Int32) (sz : Nat) : Prop := tq 1 = nI sz ∧ q2 = nI sz ∧ sz ≤ 120 ∧ ∀ j, j < sz → sg j = tx j ∧ 0 ≤ (tx j).toInt ∧ (tx j).toInt ≤ 255
theorem lit {w c : Int32} {k : Int} (hc : c.toInt = k) (h : w.toInt = k) : w = c := Int32.toInt_inj.mp (h.trans hc.symm)
theorem KR.one (q : Nat → Int32) (v : Int32) : KR q (upd q 0 v) := fun x h0 _ => pk_un h0
theorem KR.qk {q q' : Nat → Int32} {v : Int32} (h : QK (upd q 0 v) q') : KR q q' := fun x h0 h10 => (h x h10).trans (pk_un h0)
theorem chr_fin : ∀ k : Fin 256, (((nI k.val).toUInt32 % 65536).toInt32) = nI k.val := by decide +kernel
theorem chr {x : Int32} (h0 : 0 ≤ x.toInt) (h1 : x.toInt ≤ 255) : (x.toUInt32 % 65536).toInt32 = x := by
  have e : x = nI x.toInt.toNat := Int32.toInt_inj.mp (by rw [nI_toInt (by omega)]; omega)
  have h := chr_fin ⟨x.toInt.toNat, by omega⟩
  rw [e]
  exact h
section P11
variable {f g u : Nat → Int32} {rv : Nat → Nat → Int32} {B m sz : Nat} {q tq sg tx ft dy kp ik jb : Nat → Int32}
theorem lv_at0 {P : Prop} (h : ¬¬ P) : P := Classical.not_not.mp h
theorem op_append (q0 : Nat → Int32) (T : TXT tq sg (q 2) tx sz) (x : Int32) :
    EQOP 1 (sX7_append q0 tq sg x).1 (sX7_append q0 tq sg x).2.1 ((sX8_append q tx f ft dy kp ik jb x sz).2.1 0) (sX8_append q tx f ft dy kp ik jb x sz).1 ∧
    (∃ sz', TXT (sX7_append q0 tq sg x).2.2.1 (sX7_append q0 tq sg x).2.2.2 ((sX8_append q tx f ft dy kp ik jb x sz).2.1 2) (sX8_append q tx f ft dy kp ik jb x sz).2.2 sz') ∧
    ∀ k, k ≠ 0 → k ≠ 2 → (sX8_append q tx f ft dy kp ik jb x sz).2.1 k = q k := by
  obtain ⟨t1, t2, t3, t4⟩ := T
  have z0 : (0 : Int32).toInt = 0 := rfl
  have z5 : (255 : Int32).toInt = 255 := rfl
  by_cases hA : sX8_in x.toInt64 0 255 = 0
  · have hb := (in32 (a := 0) (b := 255) rfl rfl).mp hA
    have eR : sX8_append q tx f ft dy kp ik jb x sz = (0, upd q 0 1, tx) := if_pos hA
    have eC : sX7_append q0 tq sg x = (1, 0, tq, sg) := by
      unfold sX7_append
      by_cases h0 : x < 0
      · rw [if_pos h0]
      · rw [if_neg h0]
        have h5 : ¬ x ≤ 255 := fun h => by
          rw [le_i, z5] at h
          rw [lt_i, z0] at h0
          omega
        rw [if_neg h5]
    rw [eC, eR]
    dsimp only
    exact ⟨⟨pk_us, fun h => absurd h (by decide)⟩, ⟨sz, t1, t2, t3, t4⟩, fun k h0 _ => pk_un h0⟩
  · have hb : 0 ≤ x.toInt ∧ x.toInt ≤ 255 := lv_at0 (fun h => hA ((in32 (a := 0) (b := 255) rfl rfl).mpr h))
    have h0 : ¬ x < 0 := fun h => by
      rw [lt_i, z0] at h
      omega
    have h5 : x ≤ 255 := by
      rw [le_i, z5]; omega
    by_cases hf : sz = 120
    · subst hf
      have eR : sX8_append q tx f ft dy kp ik jb x 120 = (0, upd q 0 2, tx) := (if_neg hA).trans (if_pos (t2.trans rfl))
      have hl : ¬ sX6_isFull tq sg = 0 := by
        unfold sX6_isFull
        rw [t1]; decide
      have eC : sX7_append q0 tq sg x = (2, 0, tq, sg) := by
        unfold sX7_append
        rw [if_neg h0, if_pos h5, if_neg hl]
      rw [eC, eR]
      dsimp only
      exact ⟨⟨pk_us, fun h => absurd h (by decide)⟩, ⟨120, t1, t2, t3, t4⟩, fun k h0 _ => pk_un h0⟩
    · have hq : ¬ q 2 = 120 := fun h => hf (nI_inj (b := 120) (by omega) (by decide) (t2.symm.trans h))
      have c1 : tq 1 < nI 120 := by
        rw [t1]; exact (nI_ltI (by omega) (by decide)).mpr (by omega)
      have hl : sX6_isFull tq sg = 0 := if_pos c1
      have c2 : ¬ tq 1 < 0 := by
        rw [t1]; exact nI_lt_f (b := 0) (Nat.zero_le _) (by omega)
      have c3 : ¬ nI 120 ≤ tq 1 := Int32.not_le.mpr c1
      have c4 : (tq 1).toNatClampNeg = sz := by
        rw [t1, tc_n, nI_toInt (by omega)]; omega
      have eL : sX6_lengthen tq sg x = (tq 1 + 1, upd tq 1 (tq 1 + 1), upd sg sz x) := by
        unfold sX6_lengthen
        rw [if_neg c2, if_neg c3, c4, chr hb.1 hb.2]
      have eC : sX7_append q0 tq sg x = (0, tq 1 + 1, upd tq 1 (tq 1 + 1), upd sg sz x) := by
        unfold sX7_append
        rw [if_neg h0, if_pos h5, if_pos hl]
        unfold sX7_append_z_1
        rw [eL]
      have eR : sX8_append q tx f ft dy kp ik jb x sz = (q 2 + 1, upd (upd q 0 0) 2 (q 2 + 1), upd tx sz x) := (if_neg hA).trans (if_neg hq)
      rw [eC, eR]
      dsimp only
      refine ⟨⟨?_, fun _ => ?_⟩, ⟨sz + 1, ?_, ?_, by omega, fun j hj => ?_⟩, fun k k0 k2 => ?_⟩
      · rw [pk_un (by decide), pk_us]; rfl
      · rw [t1, t2]
      · rw [pk_us, t1]; exact nI_1 sz
      · rw [pk_us, t2]; exact nI_1 sz
      · by_cases hjs : j = sz
        · subst hjs
          rw [pk_us, pk_us]; exact ⟨rfl, hb⟩
        · rw [pk_un hjs, pk_un hjs]; exact t4 j (by omega)
      · rw [pk_un k2, pk_un k0]
theorem op_about (sr : SM f g u rv) (ok : OKs B m f) (w : Int32) :
    EQOP 1 (sX7_about g u rv w).1 (sX7_about g u rv w).2 ((sX8_about q tx f ft dy kp ik jb w).2 0) (sX8_about q tx f ft dy kp ik jb w).1 ∧ KR q (sX8_about q tx f ft dy kp ik jb w).2 := by
  have z0 : (0 : Int32).toInt = 0 := rfl
  have z5 : (10 : Int32).toInt = 10 := rfl
  by_cases hA : sX8_in w.toInt64 0 10 = 0
  · have hb := (in32 (a := 0) (b := 10) rfl rfl).mp hA
    have eR : sX8_about q tx f ft dy kp ik jb w = (0, upd q 0 1) := if_pos hA
    have eC : sX7_about g u rv w = (1, 0) := by
      unfold sX7_about
      by_cases h0 : w < 0
      · rw [if_pos h0]
      · rw [if_neg h0]
        have h5 : ¬ w ≤ 10 := fun h => by
          rw [le_i, z5] at h
          rw [lt_i, z0] at h0
          omega
        rw [if_neg h5]
    rw [eC, eR]
    dsimp only
    exact ⟨⟨pk_us, fun h => absurd h (by decide)⟩, KR.one q 1⟩
  · have hb : 0 ≤ w.toInt ∧ w.toInt ≤ 10 := lv_at0 (fun h => hA ((in32 (a := 0) (b := 10) rfl rfl).mpr h))
    have h0 : ¬ w < 0 := fun h => by
      rw [lt_i, z0] at h
      omega
    have h5 : w ≤ 10 := by
      rw [le_i, z5]; omega
    have eC : sX7_about g u rv w = (0, sX5_account g u rv w) := by
      unfold sX7_about
      rw [if_neg h0, if_pos h5]
    have fin : ∀ v : Int32, sX8_about q tx f ft dy kp ik jb w = (v, upd q 0 0) → sX5_account g u rv w = v → EQOP 1 (sX7_about g u rv w).1 (sX7_about g u rv w).2 ((sX8_about q tx f ft dy kp ik jb w).2 0) (sX8_about q tx f ft dy kp ik jb w).1 ∧ KR q (sX8_about q tx f ft dy kp ik jb w).2 := fun v e1 e2 => by
      rw [eC, e1, e2]
      dsimp only
      exact ⟨⟨pk_us, fun _ => rfl⟩, KR.one q 0⟩
    have eR : sX8_about q tx f ft dy kp ik jb w = (if (3 : Int32) ≤ w then (if w = 3 then ((sX8_minutesLeft f), (upd q 0 0)) else ((f (w.toNatClampNeg - 1)), (upd q 0 0))) else ((f w.toNatClampNeg), (upd q 0 0))) := if_neg hA
    have hw : w.toInt = 0 ∨ w.toInt = 1 ∨ w.toInt = 2 ∨ w.toInt = 3 ∨ w.toInt = 4 ∨ w.toInt = 5 ∨ w.toInt = 6 ∨ w.toInt = 7 ∨ w.toInt = 8 ∨ w.toInt = 9 ∨ w.toInt = 10 := by omega
    rcases hw with h | h | h | h | h | h | h | h | h | h | h
    · have e := lit (c := 0) rfl h
      subst e
      exact fin _ eR (count_eq sr ok)
    · have e := lit (c := 1) rfl h
      subst e
      exact fin _ eR (sr.1 1 (by decide) (by decide))
    · have e := lit (c := 2) rfl h
      subst e
      exact fin _ eR (sr.1 2 (by decide) (by decide))
    · have e := lit (c := 3) rfl h
      subst e
      exact fin _ eR (ml_eq sr)
    · have e := lit (c := 4) rfl h
      subst e
      exact fin _ eR (sr.1 3 (by decide) (by decide))
    · have e := lit (c := 5) rfl h
      subst e
      exact fin _ eR (sr.1 4 (by decide) (by decide))
    · have e := lit (c := 6) rfl h
      subst e
      exact fin _ eR (sr.1 5 (by decide) (by decide))
    · have e := lit (c := 7) rfl h
      subst e
      exact fin _ eR (sr.1 6 (by decide) (by decide))
    · have e := lit (c := 8) rfl h
      subst e
      exact fin _ eR (sr.1 7 (by decide) (by decide))
    · have e := lit (c := 9) rfl h
      subst e
      exact fin _ eR (sr.1 8 (by decide) (by decide))
    · have e := lit (c := 10) rfl h
      subst e
      exact fin _ eR (sr.1 9 (by decide) (by decide))
theorem op_setting (sr : SM f g u rv) (x : Int32) :
    EQOP 1 (sX7_setting g u rv x).1 (sX7_setting g u rv x).2 ((sX8_setting q tx f ft dy kp ik jb x).2 0) (sX8_setting q tx f ft dy kp ik jb x).1 ∧ KR q (sX8_setting q tx f ft dy kp ik jb x).2 := by
  by_cases hA : sX8_in x.toInt64 0 5 = 0
  · have eR : sX8_setting q tx f ft dy kp ik jb x = (0, upd q 0 1) := if_pos hA
    have eC : sX7_setting g u rv x = (1, 0) := if_pos ((sets_iff x).mpr hA)
    rw [eC, eR]
    dsimp only
    exact ⟨⟨pk_us, fun h => absurd h (by decide)⟩, KR.one q 1⟩
  · have hb : 0 ≤ x.toInt ∧ x.toInt ≤ 5 := lv_at0 (fun h => hA ((in32 (a := 0) (b := 5) rfl rfl).mpr h))
    have eR : sX8_setting q tx f ft dy kp ik jb x = (f (10 + x.toNatClampNeg), upd q 0 0) := if_neg hA
    have eC : sX7_setting g u rv x = (0, sX3_value u x) := if_neg (fun h => hA ((sets_iff x).mp h))
    rw [eC, eR]
    dsimp only
    exact ⟨⟨pk_us, fun _ => val_eq sr ((set_w x).mp hb)⟩, KR.one q 0⟩
theorem prop_eq (sr : SM f g u rv) (ok : OKs B m f) {i : Nat} (hi : i < 6) {y : Int32} (hy : 0 ≤ y.toInt ∧ y.toInt ≤ 7) : sX2_property (rv i) y = f (16 + 8 * i + y.toNatClampNeg) := by
  have hw : y.toInt = 0 ∨ y.toInt = 1 ∨ y.toInt = 2 ∨ y.toInt = 3 ∨ y.toInt = 4 ∨ y.toInt = 5 ∨ y.toInt = 6 ∨ y.toInt = 7 := by omega
  rcases hw with h | h | h | h | h | h | h | h
  · have e := lit (c := 0) rfl h
    subst e
    exact sr.2.2.2 i 0 hi (by decide)
  · have e := lit (c := 1) rfl h
    subst e
    exact sr.2.2.2 i 1 hi (by decide)
  · have e := lit (c := 2) rfl h
    subst e
    exact sr.2.2.2 i 2 hi (by decide)
  · have e := lit (c := 3) rfl h
    subst e
    exact sr.2.2.2 i 3 hi (by decide)
  · have e := lit (c := 4) rfl h
    subst e
    have e4 : rv i 5 = f (16 + 8 * i + 4) := sr.2.2.2 i 4 hi (by decide)
    show (if rv i 5 = 0 then 0 else 1) = f (16 + 8 * i + 4)
    rw [← e4]
    rcases sm_zb sr ok i hi with z | z <;> rw [z] <;> rfl
  · have e := lit (c := 5) rfl h
    subst e
    exact sr.2.2.2 i 5 hi (by decide)
  · have e := lit (c := 6) rfl h
    subst e
    exact sr.2.2.2 i 6 hi (by decide)
  · have e := lit (c := 7) rfl h
    subst e
    exact sr.2.2.2 i 7 hi (by decide)
theorem op_room (sr : SM f g u rv) (ok : OKs B m f) (x y : Int32) :
    EQOP 3 (sX7_room g u rv x y).1 (sX7_room g u rv x y).2 ((sX8_room q tx f ft dy kp ik jb m x y).2 0) (sX8_room q tx f ft dy kp ik jb m x y).1 ∧ KR q (sX8_room q tx f ft dy kp ik jb m x y).2 := by
  have z0 : (0 : Int32).toInt = 0 := rfl
  have z5 : (7 : Int32).toInt = 7 := rfl
  by_cases hR : sX8_isRoom f x = 0
  · have eC : sX7_room g u rv x y = (3, 0) := oe_n (roomAt_n sr ok hR)
    have eR : sX8_room q tx f ft dy kp ik jb m x y = (0, upd q 0 1) := if_pos hR
    rw [eC, eR]
    dsimp only
    exact ⟨⟨pk_us, fun h => absurd h (by decide)⟩, KR.one q 1⟩
  · obtain ⟨hk, hk6⟩ := isr_n ok hR
    have eC : sX7_room g u rv x y = (if y < 0 then (1, 0) else (if y ≤ 7 then (0, (sX2_property (rv x.toNatClampNeg) y)) else (1, 0))) := oe_s (roomAt_s sr ok hR)
    by_cases hA : sX8_in y.toInt64 0 7 = 0
    · have hb := (in32 (a := 0) (b := 7) rfl rfl).mp hA
      have eR : sX8_room q tx f ft dy kp ik jb m x y = (0, upd q 0 2) := (if_neg hR).trans (if_pos hA)
      have eC' : sX7_room g u rv x y = (1, 0) := by
        rw [eC]
        by_cases h0 : y < 0
        · rw [if_pos h0]
        · rw [if_neg h0]
          have h5 : ¬ y ≤ 7 := fun h => by
            rw [le_i, z5] at h
            rw [lt_i, z0] at h0
            omega
          rw [if_neg h5]
      rw [eC', eR]
      dsimp only
      exact ⟨⟨pk_us, fun h => absurd h (by decide)⟩, KR.one q 2⟩
    · have hb : 0 ≤ y.toInt ∧ y.toInt ≤ 7 := lv_at0 (fun h => hA ((in32 (a := 0) (b := 7) rfl rfl).mpr h))
      have h0 : ¬ y < 0 := fun h => by
        rw [lt_i, z0] at h
        omega
      have h5 : y ≤ 7 := by
        rw [le_i, z5]; omega
      have eR : sX8_room q tx f ft dy kp ik jb m x y = (sX8_of f x.toNatClampNeg y.toNatClampNeg, upd q 0 0) := (if_neg hR).trans (if_neg hA)
      rw [eC, if_neg h0, if_pos h5, eR]
      dsimp only
      exact ⟨⟨pk_us, fun _ => prop_eq sr ok hk6 hb⟩, KR.one q 0⟩
theorem op_does (hB : B ≤ 100000) (sr : SM f g u rv) (ok : OKs B m f) (x : Int32) :
    EQOP 3 (sX7_does g u rv x).1 (sX7_does g u rv x).2.1 ((sX8_does q tx f ft dy kp ik jb m x).2.1 0) (sX8_does q tx f ft dy kp ik jb m x).1 ∧ SM f g u (sX7_does g u rv x).2.2 ∧ KR q (sX8_does q tx f ft dy kp ik jb m x).2.1 := by
  by_cases hR : sX8_isRoom f x = 0
  · have eC : sX7_does g u rv x = (3, 0, rv) := oe_n (roomAt_n sr ok hR)
    have eR : sX8_does q tx f ft dy kp ik jb m x = (0, upd q 0 1, jb) := if_pos hR
    rw [eC, eR]
    dsimp only
    exact ⟨⟨pk_us, fun h => absurd h (by decide)⟩, sr, KR.one q 1⟩
  · obtain ⟨hk, hk6⟩ := isr_n ok hR
    have eC : sX7_does g u rv x = sX7_does_z_3 g u rv x x.toNatClampNeg (sX5_planMinute g u rv) := oe_s (roomAt_s sr ok hR)
    have eR : sX8_does q tx f ft dy kp ik jb m x = sX8_does_z_1 q tx f ft dy kp ik jb m x (sX8_find (upd q 0 0) jb f m) := if_neg hR
    obtain ⟨p1, p2, p3, p4, p5, p6⟩ := find_eq hB sr ok (upd q 0 0) jb
    have hq := find_q (upd q 0 0) jb f m
    rw [eC, eR]
    generalize sX8_find (upd q 0 0) jb f m = z1 at p1 p3 hq ⊢
    generalize sX5_planMinute g u rv = y1 at p1 p2 p3 p4 p5 p6 ⊢
    refine ⟨⟨(hq 0 (by decide)).trans pk_us, fun _ => (p3 _ hk).2⟩, ⟨sr.1, sr.2.1, fun i hi => (p2 i 0 (by decide)).trans (sr.2.2.1 i hi), fun i w hi hw => (p2 i (1 + w) (by omega)).trans (sr.2.2.2 i w hi hw)⟩, KR.qk hq⟩
theorem op_spare (hB : B ≤ 100000) (sr : SM f g u rv) (ok : OKs B m f) : sX7_spare g u rv = (sX8_spare q tx f ft dy kp ik jb).1 ∧ (sX8_spare q tx f ft dy kp ik jb).2 0 = 0 ∧ KR q (sX8_spare q tx f ft dy kp ik jb).2 := by
  have e := spare_eq hB sr ok
  unfold sX7_spare sX8_spare
  rw [e]
  by_cases h : f 10 - f 2 - f 12 * sX8_minutesLeft f < 0
  · rw [if_pos h, if_neg (Int32.not_le.mpr h)]
    dsimp only
    exact ⟨rfl, pk_us, KR.one q 0⟩
  · rw [if_neg h, if_pos (Int32.not_lt.mp h)]
    dsimp only
    exact ⟨rfl, pk_us, KR.one q 0⟩
end P11
