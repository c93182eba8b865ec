/-! PURE: numbers of a group -/
theorem nI_i {a : Nat} (h : a < 2 ^ 31) : (nI a).toInt = (a : Int) := nI_toInt h
theorem dv {a b : Nat} {c : Int32} (hc : c.toInt = (b : Int)) (hb : 0 < b) (ha : a < 2 ^ 31) : nI a / c = nI (a / b) := by
  have hle : a / b ≤ a := Nat.div_le_self a b
  refine Int32.toInt_inj.mp ?_
  rw [nI_i (show a / b < 2 ^ 31 by omega), Int32.toInt_div, nI_i ha, hc, ← Int.ofNat_tdiv]
  have h0 : (0 : Int) ≤ ((a / b : Nat) : Int) := Int.natCast_nonneg _
  have h1 : ((a / b : Nat) : Int) < 2147483648 := by
    have : a / b < 2 ^ 31 := by omega
    omega
  rw [Int.bmod_eq_of_le] <;> omega
theorem mlI {a b : Nat} {c : Int32} (hc : c.toInt = (b : Int)) (h : a * b < 2 ^ 31) (ha : a < 2 ^ 31) : nI a * c = nI (a * b) := by
  refine Int32.toInt_inj.mp ?_
  have e : (((a * b : Nat)) : Int) = (a : Int) * (b : Int) := Int.natCast_mul a b
  rw [nI_i h, im_] <;> rw [nI_i ha, hc]
  · exact e.symm
  · omega
  · omega
theorem sbI {a b : Nat} (h : b ≤ a) (ha : a < 2 ^ 31) : nI a - nI b = nI (a - b) := by
  refine Int32.toInt_inj.mp ?_
  rw [nI_i (show a - b < 2 ^ 31 by omega), is_] <;> rw [nI_i ha, nI_i (show b < 2 ^ 31 by omega)] <;> omega
theorem md {a b : Nat} {c : Int32} (hc : c.toInt = (b : Int)) (hb : 0 < b) (ha : a < 2 ^ 31) : nI a - nI a / c * c = nI (a % b) := by
  have h1 : a / b * b ≤ a := Nat.div_mul_le_self a b
  have h2 : a / b ≤ a := Nat.div_le_self a b
  rw [dv hc hb ha, mlI hc (by omega) (by omega), sbI h1 ha]
  congr 1
  have := Nat.div_add_mod a b
  rw [Nat.mul_comm] at this
  omega
theorem eq_nI {a b : Nat} {c : Int32} (hc : c.toInt = (b : Int)) (ha : a < 2 ^ 31) : nI a = c ↔ a = b := by
  rw [eq_i, nI_i ha, hc]; omega
theorem le_nI {a b : Nat} {c : Int32} (hc : c.toInt = (b : Int)) (ha : a < 2 ^ 31) : c ≤ nI a ↔ b ≤ a := by
  rw [le_i, nI_i ha, hc]; omega
/-- the digits of a group -/
theorem dig {k d h t l n : Nat} (hk : k < 10) (hd : d < 10) (hh : h < 10) (ht : t < 10) (hl : l < 10) (hn : n = 10000 * k + 1000 * d + 100 * h + 10 * t + l) :
    nI n / 10000 = nI k ∧ nI n / 1000 - nI n / 1000 / 10 * 10 = nI d ∧ nI n - nI n / 1000 * 1000 = nI (100 * h + 10 * t + l) ∧ nI n - nI n / 10000 * 10000 = nI (1000 * d + 100 * h + 10 * t + l) := by
  subst hn
  refine ⟨?_, ?_, ?_, ?_⟩
  · rw [dv (b := 10000) rfl (by decide) (by omega)]
    congr 1; omega
  · rw [dv (b := 1000) rfl (by decide) (by omega), md (b := 10) rfl (by decide) (by omega)]
    congr 1; omega
  · rw [md (b := 1000) rfl (by decide) (by omega)]
    congr 1; omega
  · rw [md (b := 10000) rfl (by decide) (by omega)]
    congr 1; omega
theorem dig_e {h t l : Nat} (hh : h < 10) (ht : t < 10) (hl : l < 10) :
    nI (100 * h + 10 * t + l) - nI (100 * h + 10 * t + l) / 10 * 10 = nI l ∧ nI (100 * h + 10 * t + l) / 10 = nI (10 * h + t) := by
  refine ⟨?_, ?_⟩
  · rw [md (b := 10) rfl (by decide) (by omega)]
    congr 1; omega
  · rw [dv (b := 10) rfl (by decide) (by omega)]
    congr 1; omega
theorem dig_y {d h t l : Nat} (hd : d < 10) (hh : h < 10) (ht : t < 10) (hl : l < 10) :
    nI (1000 * d + 100 * h + 10 * t + l) - nI (1000 * d + 100 * h + 10 * t + l) / 10 * 10 = nI l ∧ nI (1000 * d + 100 * h + 10 * t + l) / 1000 = nI d ∧
    nI (1000 * d + 100 * h + 10 * t + l) / 100 - nI (1000 * d + 100 * h + 10 * t + l) / 100 / 10 * 10 = nI h ∧ nI (1000 * d + 100 * h + 10 * t + l) - nI (1000 * d + 100 * h + 10 * t + l) / 100 * 100 = nI (10 * t + l) ∧
    nI (1000 * d + 100 * h + 10 * t + l) / 10 - nI (1000 * d + 100 * h + 10 * t + l) / 10 / 100 * 100 = nI (10 * h + t) ∧ nI (1000 * d + 100 * h + 10 * t + l) - nI (1000 * d + 100 * h + 10 * t + l) / 1000 * 1000 = nI (100 * h + 10 * t + l) := by
  refine ⟨?_, ?_, ?_, ?_, ?_, ?_⟩
  · rw [md (b := 10) rfl (by decide) (by omega)]
    congr 1; omega
  · rw [dv (b := 1000) rfl (by decide) (by omega)]
    congr 1; omega
  · rw [dv (b := 100) rfl (by decide) (by omega), md (b := 10) rfl (by decide) (by omega)]
    congr 1; omega
  · rw [md (b := 100) rfl (by decide) (by omega)]
    congr 1; omega
  · rw [dv (b := 10) rfl (by decide) (by omega), md (b := 100) rfl (by decide) (by omega)]
    congr 1; omega
  · rw [md (b := 1000) rfl (by decide) (by omega)]
    congr 1; omega
