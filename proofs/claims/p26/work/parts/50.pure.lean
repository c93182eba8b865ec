/-! PURE: the class's numbers and the reference's -/
theorem ia {x y : Int32} (h1 : -2147483648 ≤ x.toInt + y.toInt) (h2 : x.toInt + y.toInt ≤ 2147483647) : (x + y).toInt = x.toInt + y.toInt := by
  rw [Int32.toInt_add, Int.bmod_eq_of_le] <;> omega
theorem is_ {x y : Int32} (h1 : -2147483648 ≤ x.toInt - y.toInt) (h2 : x.toInt - y.toInt ≤ 2147483647) : (x - y).toInt = x.toInt - y.toInt := by
  rw [Int32.toInt_sub, Int.bmod_eq_of_le] <;> omega
theorem im_ {x y : Int32} (h1 : -2147483648 ≤ x.toInt * y.toInt) (h2 : x.toInt * y.toInt ≤ 2147483647) : (x * y).toInt = x.toInt * y.toInt := by
  rw [Int32.toInt_mul, Int.bmod_eq_of_le] <;> omega
theorem le_i {x y : Int32} : x ≤ y ↔ x.toInt ≤ y.toInt := Int32.le_iff_toInt_le
theorem lt_i {x y : Int32} : x < y ↔ x.toInt < y.toInt := Int32.lt_iff_toInt_lt
theorem eq_i {x y : Int32} : x = y ↔ x.toInt = y.toInt := Int32.toInt_inj.symm
/-- a State's cells and a row of the reference hold the same -/
def SM (f g u : Nat → Int32) (rv : Nat → Nat → Int32) : Prop :=
  (∀ k, 1 ≤ k → k ≤ 9 → g k = f k) ∧ (∀ k, k < 6 → u k = f (10 + k)) ∧ (∀ i, i < 6 → rv i 0 = nI i) ∧ (∀ i w, i < 6 → w < 8 → rv i (1 + w) = f (16 + 8 * i + w))
/-- a room's numbers -/
def RO (f : Nat → Int32) (m i : Nat) : Prop :=
  (i < m → 1 ≤ (f (16 + 8 * i)).toInt ∧ (f (16 + 8 * i)).toInt ≤ 50) ∧ (m ≤ i → f (16 + 8 * i) = 0) ∧ zb (f (16 + 8 * i + 4)) ∧ 0 ≤ (f (16 + 8 * i + 5)).toInt ∧ (f (16 + 8 * i + 5)).toInt ≤ 100 ∧ (i < m → (-400 ≤ (f (16 + 8 * i + 3)).toInt ∧ (f (16 + 8 * i + 3)).toInt ≤ 400) ∧ (-300 ≤ (f (16 + 8 * i + 2)).toInt ∧ (f (16 + 8 * i + 2)).toInt ≤ 200))
/-- a row's numbers -/
def OKs (B m : Nat) (f : Nat → Int32) : Prop :=
  m ≤ 6 ∧ f 0 = nI m ∧ (0 ≤ (f 10).toInt ∧ (f 10).toInt ≤ 9999) ∧ (0 ≤ (f 11).toInt ∧ (f 11).toInt ≤ 14) ∧ (0 ≤ (f 12).toInt ∧ (f 12).toInt ≤ 99) ∧ (1 ≤ (f 13).toInt ∧ (f 13).toInt ≤ 50) ∧ (1 ≤ (f 14).toInt ∧ (f 14).toInt ≤ 100) ∧ (1 ≤ (f 15).toInt ∧ (f 15).toInt ≤ 30) ∧ (0 ≤ (f 1).toInt ∧ (f 1).toInt ≤ B) ∧ (0 ≤ (f 2).toInt ∧ (f 2).toInt ≤ 399 * (f 1).toInt ∧ 0 ≤ (f 5).toInt ∧ (f 5).toInt ≤ 399 * (f 1).toInt) ∧ ∀ i, i < 6 → RO f m i
section P1
variable {f g u : Nat → Int32} {rv : Nat → Nat → Int32} {B m : Nat}
theorem ml_eq (sr : SM f g u rv) : sX5_minutesLeft g u = sX8_minutesLeft f := by
  unfold sX5_minutesLeft sX8_minutesLeft
  rw [sr.1 1 (by decide) (by decide), sr.2.1 1 (by decide)]
theorem ml_b (hB : B ≤ 100000) (ok : OKs B m f) : 1 ≤ (sX8_minutesLeft f).toInt ∧ (sX8_minutesLeft f).toInt ≤ 15 := by
  obtain ⟨-, -, -, h11, -, -, -, -, h1, -, -⟩ := ok
  unfold sX8_minutesLeft
  have e : (f 1 + f 11).toInt = (f 1).toInt + (f 11).toInt := ia (by omega) (by omega)
  have r := rem15 (f 1 + f 11)
  obtain ⟨-, h4, h5⟩ := td15 (f 1 + f 11).toInt
  obtain ⟨h6, -⟩ := ts15 (f 1 + f 11).toInt
  have h7 := h6 (by omega)
  have e15 : (15 : Int32).toInt = 15 := rfl
  rw [is_ (by omega) (by omega)]
  omega
theorem spare_lt (hB : B ≤ 100000) (sr : SM f g u rv) (ok : OKs B m f) {q : Nat → Int32} {k : Int32} (ht0 : 0 ≤ (q 10).toInt) (ht1 : (q 10).toInt ≤ 300) (hk0 : 0 ≤ k.toInt) (hk1 : k.toInt ≤ 50) : (sX5_spareKilowatts g u < q 10 + k) ↔ sX8_fits q f k = 0 := by
  obtain ⟨ha1, ha2⟩ := ml_b hB ok
  have hml := ml_eq sr
  obtain ⟨-, -, h10, -, h12, -, -, -, h1, h2, -⟩ := ok
  have e0 : (0 : Int32).toInt = 0 := rfl
  have en : (-1 : Int32).toInt = -1 := rfl
  have e1 : (1 : Int32).toInt = 1 := rfl
  have e9 : (9999 : Int32).toInt = 9999 := rfl
  have hu0 : u 0 = f 10 := sr.2.1 0 (by decide)
  have hu2 : u 2 = f 12 := sr.2.1 2 (by decide)
  have hg2 : g 2 = f 2 := sr.1 2 (by decide) (by decide)
  have eT : (q 10 + k).toInt = (q 10).toInt + k.toInt := ia (by omega) (by omega)
  have eT2 : (k + q 10).toInt = k.toInt + (q 10).toInt := ia (by omega) (by omega)
  have eT3 : (k + q 10 + f 12).toInt = k.toInt + (q 10).toInt + (f 12).toInt := by rw [ia (by omega) (by omega)]; omega
  have eL : (f 10 - f 2).toInt = (f 10).toInt - (f 2).toInt := is_ (by omega) (by omega)
  generalize hs : k.toInt + (q 10).toInt + (f 12).toInt = S at eT3
  have hS0 : 0 ≤ S := by omega
  have hS1 : S ≤ 449 := by omega
  generalize hA : (sX8_minutesLeft f).toInt = a at ha1 ha2
  have hp0 : 0 ≤ S * a := Int.mul_nonneg hS0 (by omega)
  have hp1 : S * a ≤ 449 * 15 := Int.mul_le_mul hS1 ha2 (by omega) (by omega)
  have eM : ((k + q 10 + f 12) * sX8_minutesLeft f).toInt = S * a := by
    rw [im_] <;> rw [eT3, hA] <;> omega
  have eR : (f 2 + (k + q 10 + f 12) * sX8_minutesLeft f).toInt = (f 2).toInt + S * a := by
    rw [ia] <;> rw [eM] <;> omega
  have hfit : sX8_fits q f k = 0 ↔ (f 10).toInt - (f 2).toInt < S * a := by
    unfold sX8_fits
    by_cases h : f 10 < f 2 + (k + q 10 + f 12) * sX8_minutesLeft f
    · rw [if_pos h]
      rw [lt_i, eR] at h
      exact ⟨fun _ => by omega, fun _ => rfl⟩
    · rw [if_neg h]
      rw [lt_i, eR] at h
      exact ⟨fun q => absurd q (by decide), fun _ => by omega⟩
  rw [hfit]
  unfold sX5_spareKilowatts
  rw [hml, hu0, hu2, hg2]
  by_cases c1 : f 10 - f 2 < 0
  · rw [if_pos c1, lt_i, en, eT]
    rw [lt_i, eL, e0] at c1
    exact ⟨fun _ => by omega, fun _ => by omega⟩
  · rw [if_neg c1]
    rw [lt_i, eL, e0] at c1
    have c2 : (1 : Int32) ≤ sX8_minutesLeft f := by rw [le_i, e1, hA]; omega
    rw [if_pos c2]
    have hd0 : 0 ≤ (f 10 - f 2).toInt.tdiv a := Int.tdiv_nonneg (by omega) (by omega)
    have hd1 : (f 10 - f 2).toInt.tdiv a ≤ (f 10 - f 2).toInt := Int.tdiv_le_self a (by omega)
    have eD : ((f 10 - f 2) / sX8_minutesLeft f).toInt = (f 10 - f 2).toInt.tdiv a := by
      rw [Int32.toInt_div, hA, Int.bmod_eq_of_le] <;> omega
    have hdiv : (f 10 - f 2).toInt.tdiv a = (f 10 - f 2).toInt / a := Int.tdiv_eq_ediv_of_nonneg (by omega)
    have hlt : (f 10 - f 2).toInt / a < S ↔ (f 10 - f 2).toInt < S * a := Int.ediv_lt_iff_lt_mul (by omega)
    have eE : ((f 10 - f 2) / sX8_minutesLeft f - f 12).toInt = (f 10 - f 2).toInt.tdiv a - (f 12).toInt := by
      rw [is_] <;> rw [eD] <;> omega
    rw [← hdiv] at hlt
    rw [eL] at hlt eE hd1 hd0
    by_cases c3 : (0 : Int32) ≤ (f 10 - f 2) / sX8_minutesLeft f - f 12
    · have c4 : ¬ (9999 : Int32) < (f 10 - f 2) / sX8_minutesLeft f - f 12 := by
        rw [lt_i, eE, e9]; omega
      rw [if_pos c3, if_neg c4, lt_i, eE, eT, ← hlt]
      constructor <;> intro h <;> omega
    · rw [if_neg c3, lt_i, en, eT, ← hlt]
      rw [le_i, eE, e0] at c3
      constructor <;> intro h <;> omega
end P1
