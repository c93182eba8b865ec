/-! PURE: what is asked before a change -/
theorem in32 {x : Int32} {lo hi : Int64} {a b : Int} (ha : lo.toInt = a) (hb : hi.toInt = b) : sX8_in x.toInt64 lo hi = 0 ↔ ¬ (a ≤ x.toInt ∧ x.toInt ≤ b) := by
  have h : ¬ sX8_in x.toInt64 lo hi = 0 ↔ (a ≤ x.toInt ∧ x.toInt ≤ b) := by
    rw [in_iff, Int64.le_iff_toInt_le, Int64.le_iff_toInt_le, Int32.toInt_toInt64, ha, hb]
  constructor
  · intro q r; exact h.mpr r q
  · intro q
    by_cases z : sX8_in x.toInt64 lo hi = 0
    · exact z
    · exact absurd (h.mp z) q
theorem tc_n (x : Int32) : x.toNatClampNeg = x.toInt.toNat := rfl
section P8
variable {f g u : Nat → Int32} {rv : Nat → Nat → Int32} {B m : Nat}
theorem isr_iff (ok : OKs B m f) (i : Int32) : sX8_isRoom f i = 0 ↔ ¬ (0 ≤ i.toInt ∧ i.toInt < m) := by
  have hm := ok.1
  have e1 : (1 : Int32).toInt = 1 := rfl
  have e : (f 0 - 1).toInt64.toInt = (m : Int) - 1 := by
    rw [Int32.toInt_toInt64, ok.2.1, is_, nI_toInt (by omega), e1] <;> rw [nI_toInt (by omega), e1] <;> omega
  unfold sX8_isRoom
  rw [in32 (a := 0) rfl e]
  constructor <;> intro h q <;> apply h <;> omega
theorem there_iff (sr : SM f g u rv) (ok : OKs B m f) {i : Nat} (hi : i < 6) : sX2_isThere (rv i) = 0 ↔ m ≤ i := by
  have e : rv i 1 = f (16 + 8 * i) := sr.2.2.2 i 0 hi (by decide)
  have e0 : (0 : Int32).toInt = 0 := rfl
  obtain ⟨o1, o2, -⟩ := ok.2.2.2.2.2.2.2.2.2.2 i hi
  unfold sX2_isThere
  rw [e]
  by_cases h : m ≤ i
  · rw [o2 h, if_pos (Int32.le_refl _)]
    exact ⟨fun _ => h, fun _ => rfl⟩
  · have h1 := (o1 (by omega)).1
    rw [if_neg (by rw [le_i, e0]; omega)]
    exact ⟨fun q => absurd q (by decide), fun q => absurd q h⟩
theorem roomAt_eq (sr : SM f g u rv) (ok : OKs B m f) (i : Int32) : sX5_roomAt g u rv i = if sX8_isRoom f i = 0 then none else some i.toNatClampNeg := by
  have hm := ok.1
  have e0 : (0 : Int32).toInt = 0 := rfl
  have e6 : (nI 6).toInt = 6 := nI_toInt (by decide)
  unfold sX5_roomAt
  by_cases h1 : i < 0
  · rw [if_pos h1]
    rw [lt_i, e0] at h1
    rw [if_pos ((isr_iff ok i).mpr (by omega))]
  · rw [if_neg h1]
    rw [lt_i, e0] at h1
    by_cases h2 : i < nI 6
    · rw [if_pos h2]
      rw [lt_i, e6] at h2
      have hc : i.toNatClampNeg < 6 := by rw [tc_n]; omega
      by_cases h3 : m ≤ i.toNatClampNeg
      · rw [if_pos ((there_iff sr ok hc).mpr h3), if_pos ((isr_iff ok i).mpr (by rw [tc_n] at h3; omega))]
      · have a1 : ¬ sX2_isThere (rv i.toNatClampNeg) = 0 := fun q => h3 ((there_iff sr ok hc).mp q)
        have a2 : ¬ sX8_isRoom f i = 0 := fun q => (isr_iff ok i).mp q (by rw [tc_n] at h3; omega)
        rw [if_neg a1, if_neg a2]
    · rw [if_neg h2]
      rw [lt_i, e6] at h2
      rw [if_pos ((isr_iff ok i).mpr (by omega))]
theorem isr_n (ok : OKs B m f) {i : Int32} (h : ¬ sX8_isRoom f i = 0) : i.toNatClampNeg < m ∧ i.toNatClampNeg < 6 := by
  have hm := ok.1
  have h1 : 0 ≤ i.toInt ∧ i.toInt < m := by
    by_cases q : 0 ≤ i.toInt ∧ i.toInt < m
    · exact q
    · exact absurd ((isr_iff ok i).mpr q) h
  rw [tc_n]
  omega
theorem ff_eq (sr : SM f g u rv) (ok : OKs B m f) : ∀ (d i : Nat), i + d = 6 → i ≤ m → lp_X5_firstFree_10 g u rv d i = if m < 6 then some m else none
  | 0, i, hd, hi => by
    have := ok.1
    rw [if_neg (by omega)]; rfl
  | d + 1, i, hd, hi => by
    show (if sX2_isThere (rv i) = 0 then some i else lp_X5_firstFree_10 g u rv d (i + 1)) = _
    by_cases h : m ≤ i
    · have e : i = m := by omega
      rw [if_pos ((there_iff sr ok (by omega)).mpr h), if_pos (by omega), e]
    · have a1 : ¬ sX2_isThere (rv i) = 0 := fun q => h ((there_iff sr ok (by omega)).mp q)
      rw [if_neg a1]
      exact ff_eq sr ok d (i + 1) (by omega) (by omega)
theorem firstFree_eq (sr : SM f g u rv) (ok : OKs B m f) : sX5_firstFree g u rv = if m < 6 then some m else none := ff_eq sr ok 6 0 rfl (Nat.zero_le _)
theorem count_eq (sr : SM f g u rv) (ok : OKs B m f) : sX5_countRooms g u rv = f 0 := by
  have hm := ok.1
  unfold sX5_countRooms
  rw [firstFree_eq sr ok, ok.2.1]
  by_cases h : m < 6
  · rw [if_pos h]
    exact sr.2.2.1 m h
  · rw [if_neg h, show m = 6 by omega]
    rfl
theorem six0_iff (ok : OKs B m f) : (6 : Int32) ≤ f 0 ↔ ¬ m < 6 := by
  have hm := ok.1
  have e6 : (6 : Int32).toInt = 6 := rfl
  rw [ok.2.1, le_i, nI_toInt (by omega), e6]
  omega
theorem pass_iff (n : Int32) : sX5_canPass n = 0 ↔ sX8_in n.toInt64 1 60 = 0 := by
  have e1 : (1 : Int32).toInt = 1 := rfl
  have e60 : (60 : Int32).toInt = 60 := rfl
  rw [in32 (a := 1) (b := 60) rfl rfl]
  unfold sX5_canPass
  by_cases h1 : n < 1
  · rw [if_pos h1]
    rw [lt_i, e1] at h1
    exact ⟨fun _ => by omega, fun _ => rfl⟩
  · rw [if_neg h1]
    rw [lt_i, e1] at h1
    by_cases h2 : 60 < n
    · rw [if_pos h2]
      rw [lt_i, e60] at h2
      exact ⟨fun _ => by omega, fun _ => rfl⟩
    · rw [if_neg h2]
      rw [lt_i, e60] at h2
      exact ⟨fun q => absurd q (by decide), fun q => absurd ⟨by omega, by omega⟩ q⟩
theorem temp_iff (n : Int32) : sX5_canBeTemperature n = 0 ↔ sX8_in n.toInt64 (-400) 400 = 0 := by
  have e1 : (-400 : Int32).toInt = -400 := rfl
  have e60 : (400 : Int32).toInt = 400 := rfl
  rw [in32 (a := -400) (b := 400) rfl rfl]
  unfold sX5_canBeTemperature
  by_cases h1 : n < -400
  · rw [if_pos h1]
    rw [lt_i, e1] at h1
    exact ⟨fun _ => by omega, fun _ => rfl⟩
  · rw [if_neg h1]
    rw [lt_i, e1] at h1
    by_cases h2 : 400 < n
    · rw [if_pos h2]
      rw [lt_i, e60] at h2
      exact ⟨fun _ => by omega, fun _ => rfl⟩
    · rw [if_neg h2]
      rw [lt_i, e60] at h2
      exact ⟨fun q => absurd q (by decide), fun q => absurd ⟨by omega, by omega⟩ q⟩
theorem new_t (x y z : Int32) : sX8_isNew x y z = 0 ↔ ¬ ((1 ≤ x.toInt ∧ x.toInt ≤ 50) ∧ (-300 ≤ y.toInt ∧ y.toInt ≤ 200) ∧ (y.toInt + 1 ≤ z.toInt ∧ z.toInt ≤ 200)) := by
  have e1 : (1 : Int32).toInt = 1 := rfl
  unfold sX8_isNew
  by_cases h1 : sX8_in x.toInt64 1 50 = 0
  · rw [if_pos h1]
    rw [in32 (a := 1) (b := 50) rfl rfl] at h1
    exact ⟨fun _ q => h1 q.1, fun _ => rfl⟩
  · rw [if_neg h1]
    rw [in32 (a := 1) (b := 50) rfl rfl] at h1
    by_cases h2 : sX8_in y.toInt64 (-300) 200 = 0
    · rw [if_pos h2]
      rw [in32 (a := -300) (b := 200) rfl rfl] at h2
      exact ⟨fun _ q => h2 q.2.1, fun _ => rfl⟩
    · rw [if_neg h2]
      rw [in32 (a := -300) (b := 200) rfl rfl] at h2
      have hy : -300 ≤ y.toInt ∧ y.toInt ≤ 200 := by
        by_cases q : -300 ≤ y.toInt ∧ y.toInt ≤ 200
        · exact q
        · exact absurd q h2
      have ey : (y + 1).toInt64.toInt = y.toInt + 1 := by
        rw [Int32.toInt_toInt64, ia] <;> rw [e1] <;> omega
      by_cases h3 : sX8_in z.toInt64 (y + 1).toInt64 200 = 0
      · rw [if_pos h3]
        rw [in32 ey (b := 200) rfl] at h3
        exact ⟨fun _ q => h3 q.2.2, fun _ => rfl⟩
      · rw [if_neg h3]
        rw [in32 ey (b := 200) rfl] at h3
        refine ⟨fun q => absurd q (by decide), fun q => absurd ⟨?_, hy, ?_⟩ q⟩
        · by_cases q : 1 ≤ x.toInt ∧ x.toInt ≤ 50
          · exact q
          · exact absurd q h1
        · by_cases q : y.toInt + 1 ≤ z.toInt ∧ z.toInt ≤ 200
          · exact q
          · exact absurd q h3
theorem new_iff (x y z : Int32) : sX5_canBeRoom x y z = 0 ↔ sX8_isNew x y z = 0 := by
  have e1 : (1 : Int32).toInt = 1 := rfl
  have e50 : (50 : Int32).toInt = 50 := rfl
  have e3 : (-300 : Int32).toInt = -300 := rfl
  have e2 : (200 : Int32).toInt = 200 := rfl
  rw [new_t]
  unfold sX5_canBeRoom
  by_cases h1 : x < 1
  · rw [if_pos h1]
    rw [lt_i, e1] at h1
    exact ⟨fun _ => by omega, fun _ => rfl⟩
  · rw [if_neg h1]
    rw [lt_i, e1] at h1
    by_cases h2 : 50 < x
    · rw [if_pos h2]
      rw [lt_i, e50] at h2
      exact ⟨fun _ => by omega, fun _ => rfl⟩
    · rw [if_neg h2]
      rw [lt_i, e50] at h2
      by_cases h3 : y < -300
      · rw [if_pos h3]
        rw [lt_i, e3] at h3
        exact ⟨fun _ => by omega, fun _ => rfl⟩
      · rw [if_neg h3]
        rw [lt_i, e3] at h3
        by_cases h4 : z ≤ y
        · rw [if_pos h4]
          rw [le_i] at h4
          exact ⟨fun _ => by omega, fun _ => rfl⟩
        · rw [if_neg h4]
          rw [le_i] at h4
          by_cases h5 : 200 < z
          · rw [if_pos h5]
            rw [lt_i, e2] at h5
            exact ⟨fun _ => by omega, fun _ => rfl⟩
          · rw [if_neg h5]
            rw [lt_i, e2] at h5
            exact ⟨fun q => absurd q (by decide), fun q => absurd (by omega) q⟩
/-- the six settings by number -/
theorem set_w (w : Int32) : (0 ≤ w.toInt ∧ w.toInt ≤ 5) ↔ (w = 0 ∨ w = 1 ∨ w = 2 ∨ w = 3 ∨ w = 4 ∨ w = 5) := by
  constructor
  · intro h
    rcases (show w.toInt = 0 ∨ w.toInt = 1 ∨ w.toInt = 2 ∨ w.toInt = 3 ∨ w.toInt = 4 ∨ w.toInt = 5 by omega) with q | q | q | q | q | q
    · exact Or.inl (eq_i.mpr q)
    · exact Or.inr (Or.inl (eq_i.mpr q))
    · exact Or.inr (Or.inr (Or.inl (eq_i.mpr q)))
    · exact Or.inr (Or.inr (Or.inr (Or.inl (eq_i.mpr q))))
    · exact Or.inr (Or.inr (Or.inr (Or.inr (Or.inl (eq_i.mpr q)))))
    · exact Or.inr (Or.inr (Or.inr (Or.inr (Or.inr (eq_i.mpr q)))))
  · intro h
    rcases h with h | h | h | h | h | h <;> rw [h] <;> decide
theorem sets_iff (w : Int32) : sX3_isSetting w = 0 ↔ sX8_in w.toInt64 0 5 = 0 := by
  have e0 : (0 : Int32).toInt = 0 := rfl
  have e6 : (6 : Int32).toInt = 6 := rfl
  rw [in32 (a := 0) (b := 5) rfl rfl]
  unfold sX3_isSetting
  by_cases h1 : w < 0
  · rw [if_pos h1]
    rw [lt_i, e0] at h1
    exact ⟨fun _ => by omega, fun _ => rfl⟩
  · rw [if_neg h1]
    rw [lt_i, e0] at h1
    by_cases h2 : 6 ≤ w
    · rw [if_pos h2]
      rw [le_i, e6] at h2
      exact ⟨fun _ => by omega, fun _ => rfl⟩
    · rw [if_neg h2, if_neg h2]
      rw [le_i, e6] at h2
      exact ⟨fun q => absurd q (by decide), fun q => absurd ⟨by omega, by omega⟩ q⟩
/-- the ends of a setting -/
def slo (w : Int32) : Int := if w = 0 then 0 else if w = 1 then 0 else if w = 2 then 0 else 1
def shi (w : Int32) : Int := if w = 0 then 9999 else if w = 1 then 14 else if w = 2 then 99 else if w = 3 then 50 else if w = 4 then 100 else 30
theorem ends_w {w : Int32} (h : w = 0 ∨ w = 1 ∨ w = 2 ∨ w = 3 ∨ w = 4 ∨ w = 5) : (lsI w).toInt = slo w ∧ (msI w).toInt = shi w := by
  rcases h with h | h | h | h | h | h <;> rw [h] <;> decide
theorem all_c (w v : Int32) : sX3_isAllowed w v = 0 ↔ ¬ ((0 ≤ w.toInt ∧ w.toInt ≤ 5) ∧ slo w ≤ v.toInt ∧ v.toInt ≤ shi w) := by
  unfold sX3_isAllowed
  by_cases h : sX3_isSetting w = 0
  · rw [if_pos h]
    rw [sets_iff, in32 (a := 0) (b := 5) rfl rfl] at h
    exact ⟨fun _ q => h q.1, fun _ => rfl⟩
  · rw [if_neg h]
    have hw : 0 ≤ w.toInt ∧ w.toInt ≤ 5 := by
      rw [sets_iff, in32 (a := 0) (b := 5) rfl rfl] at h
      by_cases q : 0 ≤ w.toInt ∧ w.toInt ≤ 5
      · exact q
      · exact absurd q h
    obtain ⟨e1, e2⟩ := ends_w ((set_w w).mp hw)
    by_cases h1 : v < lsI w
    · rw [if_pos h1]
      rw [lt_i, e1] at h1
      exact ⟨fun _ => by omega, fun _ => rfl⟩
    · rw [if_neg h1]
      rw [lt_i, e1] at h1
      by_cases h2 : msI w < v
      · rw [if_pos h2]
        rw [lt_i, e2] at h2
        exact ⟨fun _ => by omega, fun _ => rfl⟩
      · rw [if_neg h2]
        rw [lt_i, e2] at h2
        exact ⟨fun q => absurd q (by decide), fun q => absurd ⟨hw, by omega, by omega⟩ q⟩
theorem all_m (w v : Int32) : sX8_isSetting w v = 0 ↔ ¬ ((0 ≤ w.toInt ∧ w.toInt ≤ 5) ∧ slo w ≤ v.toInt ∧ v.toInt ≤ shi w) := by
  unfold sX8_isSetting
  by_cases h : sX8_in w.toInt64 0 5 = 0
  · rw [if_pos h]
    rw [in32 (a := 0) (b := 5) rfl rfl] at h
    exact ⟨fun _ q => h q.1, fun _ => rfl⟩
  · rw [if_neg h]
    have hw : 0 ≤ w.toInt ∧ w.toInt ≤ 5 := by
      rw [in32 (a := 0) (b := 5) rfl rfl] at h
      by_cases q : 0 ≤ w.toInt ∧ w.toInt ≤ 5
      · exact q
      · exact absurd q h
    have key : ∀ (lo hi : Int64) (a b : Int), lo.toInt = a → hi.toInt = b → slo w = a → shi w = b → (sX8_in v.toInt64 lo hi = 0 ↔ ¬ ((0 ≤ w.toInt ∧ w.toInt ≤ 5) ∧ slo w ≤ v.toInt ∧ v.toInt ≤ shi w)) := by
      intro lo hi a b h1 h2 h3 h4
      rw [in32 h1 h2, h3, h4]
      exact ⟨fun q z => q z.2, fun q z => q ⟨hw, z⟩⟩
    have key2 : (sX8_isSetting_j26 w v (if 3 ≤ w then 1 else 0) = 0) ↔ ¬ ((0 ≤ w.toInt ∧ w.toInt ≤ 5) ∧ slo w ≤ v.toInt ∧ v.toInt ≤ shi w) := by
      unfold sX8_isSetting_j26
      rcases (set_w w).mp hw with q | q | q | q | q | q <;> subst q
      · exact key 0 9999 0 9999 rfl rfl rfl rfl
      · exact key 0 14 0 14 rfl rfl rfl rfl
      · exact key 0 99 0 99 rfl rfl rfl rfl
      · exact key 1 50 1 50 rfl rfl rfl rfl
      · exact key 1 100 1 100 rfl rfl rfl rfl
      · exact key 1 30 1 30 rfl rfl rfl rfl
    exact key2
theorem all_iff (w v : Int32) : sX3_isAllowed w v = 0 ↔ sX8_isSetting w v = 0 := by rw [all_c, all_m]
theorem val_eq (sr : SM f g u rv) {w : Int32} (h : w = 0 ∨ w = 1 ∨ w = 2 ∨ w = 3 ∨ w = 4 ∨ w = 5) : sX3_value u w = f (10 + w.toNatClampNeg) := by
  unfold sX3_value
  rcases h with h | h | h | h | h | h <;> subst h
  · exact sr.2.1 0 (by decide)
  · exact sr.2.1 1 (by decide)
  · exact sr.2.1 2 (by decide)
  · exact sr.2.1 3 (by decide)
  · exact sr.2.1 4 (by decide)
  · exact sr.2.1 5 (by decide)
theorem chg_eq {w : Int32} (v : Int32) (h : w = 0 ∨ w = 1 ∨ w = 2 ∨ w = 3 ∨ w = 4 ∨ w = 5) : sX3_change u w v = upd u w.toNatClampNeg v := by
  unfold sX3_change
  rcases h with h | h | h | h | h | h <;> subst h <;> rfl
/-- a changed setting -/
theorem set_ok (sr : SM f g u rv) (ok : OKs B m f) {w v : Int32} (hw : 0 ≤ w.toInt ∧ w.toInt ≤ 5) (h1 : slo w ≤ v.toInt) (h2 : v.toInt ≤ shi w) : SM (upd f (10 + w.toNatClampNeg) v) g (sX3_change u w v) rv ∧ OKs B m (upd f (10 + w.toNatClampNeg) v) := by
  have hw6 := (set_w w).mp hw
  rw [chg_eq v hw6]
  have hc : w.toNatClampNeg < 6 := by rw [tc_n]; omega
  obtain ⟨a1, a2, a3, a4, a5, a6, a7, a8, a9, a10, a11⟩ := ok
  refine ⟨⟨fun k q1 q2 => ?_, fun k hk => ?_, sr.2.2.1, fun i x hi hx => ?_⟩, a1, ?_, ?_, ?_, ?_, ?_, ?_, ?_, ?_, ?_, fun i hi => ?_⟩
  · rw [pk_un (by omega)]; exact sr.1 k q1 q2
  · by_cases hkw : k = w.toNatClampNeg
    · rw [hkw, pk_us, pk_us]
    · rw [pk_un hkw, pk_un (by omega)]; exact sr.2.1 k hk
  · rw [pk_un (by omega)]; exact sr.2.2.2 i x hi hx
  · rw [pk_un (by omega)]; exact a2
  · rcases hw6 with q | q | q | q | q | q <;> subst q
    · exact ⟨h1, h2⟩
    all_goals exact a3
  · rcases hw6 with q | q | q | q | q | q <;> subst q
    · exact a4
    · exact ⟨h1, h2⟩
    all_goals exact a4
  · rcases hw6 with q | q | q | q | q | q <;> subst q
    · exact a5
    · exact a5
    · exact ⟨h1, h2⟩
    all_goals exact a5
  · rcases hw6 with q | q | q | q | q | q <;> subst q
    · exact a6
    · exact a6
    · exact a6
    · exact ⟨h1, h2⟩
    all_goals exact a6
  · rcases hw6 with q | q | q | q | q | q <;> subst q
    · exact a7
    · exact a7
    · exact a7
    · exact a7
    · exact ⟨h1, h2⟩
    · exact a7
  · rcases hw6 with q | q | q | q | q | q <;> subst q
    · exact a8
    · exact a8
    · exact a8
    · exact a8
    · exact a8
    · exact ⟨h1, h2⟩
  · rw [pk_un (by omega)]; exact a9
  · rw [pk_un (by omega), pk_un (by omega), pk_un (by omega)]; exact a10
  · have o := a11 i hi
    unfold RO at o ⊢
    rw [pk_un (by omega), pk_un (by omega), pk_un (by omega), pk_un (by omega), pk_un (by omega)]
    exact o
/-- what the meter has left -/
theorem spare_eq (hB : B ≤ 100000) (sr : SM f g u rv) (ok : OKs B m f) : sX5_spareKilowatts g u = (if f 10 - f 2 - f 12 * sX8_minutesLeft f < 0 then -1 else (f 10 - f 2 - f 12 * sX8_minutesLeft f) / sX8_minutesLeft f) := by
  obtain ⟨ha1, ha2⟩ := ml_b hB ok
  have hml := ml_eq sr
  obtain ⟨-, -, h10, -, h12, -, -, -, h1, h2, -⟩ := ok
  have e0 : (0 : Int32).toInt = 0 := rfl
  have en : (-1 : Int32).toInt = -1 := rfl
  have e1 : (1 : Int32).toInt = 1 := rfl
  have e9 : (9999 : Int32).toInt = 9999 := rfl
  have hu0 : u 0 = f 10 := sr.2.1 0 (by decide)
  have hu2 : u 2 = f 12 := sr.2.1 2 (by decide)
  have hg2 : g 2 = f 2 := sr.1 2 (by decide) (by decide)
  have eL : (f 10 - f 2).toInt = (f 10).toInt - (f 2).toInt := is_ (by omega) (by omega)
  generalize hA : (sX8_minutesLeft f).toInt = a at ha1 ha2
  have hp0 : 0 ≤ (f 12).toInt * a := Int.mul_nonneg h12.1 (by omega)
  have hp1 : (f 12).toInt * a ≤ 99 * 15 := Int.mul_le_mul h12.2 ha2 (by omega) (by omega)
  have eM : (f 12 * sX8_minutesLeft f).toInt = (f 12).toInt * a := by
    rw [im_] <;> rw [hA] <;> omega
  have eR : (f 10 - f 2 - f 12 * sX8_minutesLeft f).toInt = (f 10 - f 2).toInt - (f 12).toInt * a := by
    rw [is_] <;> rw [eM] <;> omega
  generalize hL : (f 10 - f 2).toInt = Lf at eR eL
  unfold sX5_spareKilowatts
  rw [hml, hu0, hu2, hg2]
  by_cases c1 : f 10 - f 2 < 0
  · rw [if_pos c1]
    rw [lt_i, hL, e0] at c1
    rw [if_pos (by rw [lt_i, eR, e0]; omega)]
  · rw [if_neg c1]
    rw [lt_i, hL, e0] at c1
    have c2 : (1 : Int32) ≤ sX8_minutesLeft f := by rw [le_i, e1, hA]; omega
    rw [if_pos c2]
    have hd0 : 0 ≤ Lf.tdiv a := Int.tdiv_nonneg (by omega) (by omega)
    have hd1 : Lf.tdiv a ≤ Lf := Int.tdiv_le_self a (by omega)
    have hdiv : Lf.tdiv a = Lf / a := Int.tdiv_eq_ediv_of_nonneg (by omega)
    have eD : ((f 10 - f 2) / sX8_minutesLeft f).toInt = Lf / a := by
      rw [Int32.toInt_div, hA, hL, Int.bmod_eq_of_le] <;> omega
    have eE : ((f 10 - f 2) / sX8_minutesLeft f - f 12).toInt = Lf / a - (f 12).toInt := by
      rw [is_] <;> rw [eD] <;> omega
    have hsub : (Lf - (f 12).toInt * a) / a = Lf / a - (f 12).toInt := Int.sub_mul_ediv_right _ _ (by omega)
    by_cases c3 : (0 : Int32) ≤ (f 10 - f 2) / sX8_minutesLeft f - f 12
    · have c4 : ¬ (9999 : Int32) < (f 10 - f 2) / sX8_minutesLeft f - f 12 := by
        rw [lt_i, eE, e9]; omega
      rw [if_pos c3, if_neg c4]
      rw [le_i, eE, e0] at c3
      have c5 : 0 ≤ Lf - (f 12).toInt * a := by
        have h3 : (f 12).toInt * a ≤ Lf / a * a := Int.mul_le_mul_of_nonneg_right (by omega) (by omega)
        have h4 : Lf / a * a ≤ Lf := Int.ediv_mul_le Lf (by omega)
        omega
      rw [if_neg (by rw [lt_i, eR, e0]; omega), eq_i, eE, Int32.toInt_div, hA, eR]
      have hq0 : 0 ≤ (Lf - (f 12).toInt * a).tdiv a := Int.tdiv_nonneg c5 (by omega)
      have hq1 : (Lf - (f 12).toInt * a).tdiv a ≤ Lf - (f 12).toInt * a := Int.tdiv_le_self a c5
      have hq : (Lf - (f 12).toInt * a).tdiv a = (Lf - (f 12).toInt * a) / a := Int.tdiv_eq_ediv_of_nonneg c5
      rw [Int.bmod_eq_of_le (by omega) (by omega), hq, hsub]
    · rw [if_neg c3]
      rw [le_i, eE, e0] at c3
      have c5 : Lf - (f 12).toInt * a < 0 := by
        have h3 : (Lf - (f 12).toInt * a) / a < 0 := by rw [hsub]; omega
        by_cases q : 0 ≤ Lf - (f 12).toInt * a
        · have := Int.ediv_nonneg q (show 0 ≤ a by omega)
          omega
        · omega
      rw [if_pos (by rw [lt_i, eR, e0]; omega)]
end P8
