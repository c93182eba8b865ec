/-! PURE: a minute, as it was told -/
section P90
variable {f : RW} {B m : Nat}
theorem mit_0 {m : Nat} (hm : m ≤ 6) : ∀ (d : Nat) (q jb f : RW), (mit m d (q, jb, f)).2.2 0 = f 0
  | 0, _, _, _ => rfl
  | d + 1, q, jb, f => by
    have e : mit m (d + 1) (q, jb, f) = mit m d ((sX8_minuteOn q jb f m).1, (sX8_minuteOn q jb f m).2.1, (sX8_minuteOn q jb f m).2.2) := rfl
    rw [e, mit_0 hm d, mn_0 hm]
theorem mF_run {f : RW} (hm : mF f ≤ 6) (n : Nat) : mF (RUNF f n) = mF f := by
  show (RUNF f n 0).toNatClampNeg = (f 0).toNatClampNeg
  unfold RUNF
  rw [mit_0 hm]
theorem run1 (ok : OKs B m f) : RUNF f 1 = (sX8_minuteOn zz zz f m).2.2 := by
  unfold RUNF
  rw [mF_of ok]; rfl
theorem run1_room (hB : B ≤ 100000) (ok : OKs B m f) {i : Nat} (hi : i < m) : RMI f (RUNF f 1) (JB f i) i := by
  obtain ⟨-, -, -, h⟩ := minute_res hB ok zz zz
  have eJ : JB f i = (sX8_find zz zz f m).2 i := by unfold JB; rw [mF_of ok]
  rw [run1 ok, eJ]
  exact h i hi
theorem pass_n {σ : SG} : ¬ (sPush σ (RUNF σ.1 1)).2.1 = 0 := by
  show ¬ pushC σ.2.1 = 0
  unfold pushC
  split <;> omega
theorem push_ne {σ : SG} {g : RW} : ¬ (sPush σ g).2.1 = 0 := by
  show ¬ pushC σ.2.1 = 0
  unfold pushC
  split <;> omega
theorem undo_row {σ : SG} {g : RW} : (sUndo (sPush σ g)).1 = σ.1 := by
  show pushR σ.2.1 σ.2.2.1 σ.1 (pushC σ.2.1 - 1) = σ.1
  unfold pushR pushC
  by_cases h : σ.2.1 < 14
  · simp only [if_pos h, Nat.add_sub_cancel, if_pos]
  · simp only [if_neg h]; rfl
theorem push_le {σ : SG} {g : RW} : (sPush σ g).2.1 ≤ 14 := by
  show pushC σ.2.1 ≤ 14
  unfold pushC
  split <;> omega
theorem thrown_n {k : Nat} (h : k < 2147483648) : sL_thrown (nI k) = 0 := by
  have e := t_n h
  have a1 : ¬ nI k = (-9999001) := fun z => by
    rw [z] at e
    have : (-9999001 : Int32).toInt = -9999001 := rfl
    omega
  have a2 : ¬ nI k = (-9999002) := fun z => by
    rw [z] at e
    have : (-9999002 : Int32).toInt = -9999002 := rfl
    omega
  have a3 : ¬ nI k = (-9999003) := fun z => by
    rw [z] at e
    have : (-9999003 : Int32).toInt = -9999003 := rfl
    omega
  unfold sL_thrown
  simp only [if_neg a1, if_neg a2, if_neg a3]
theorem cl_hi {E : Int32} (h : ¬ E ≤ 400) : 400 = sX8_clamp E (-400) 400 := by
  unfold sX8_clamp
  have e1 : (400 : Int32).toInt = 400 := rfl
  have e2 : (-400 : Int32).toInt = -400 := rfl
  rw [if_pos (by rw [le_i, e1] at h; rw [le_i, e2]; omega), if_neg h]
theorem cl_lo {E : Int32} (h : ¬ -400 ≤ E) : -400 = sX8_clamp E (-400) 400 := by
  unfold sX8_clamp
  rw [if_neg h]
theorem cl_mid {E : Int32} (h : E ≤ 400) (h2 : -400 ≤ E) : E = sX8_clamp E (-400) 400 := by
  unfold sX8_clamp
  rw [if_pos h2, if_pos h]
theorem open4 {o : Int32} (hz : zb o) : 4 * o = if o = 0 then 0 else 4 := by
  rcases hz with h | h <;> rw [h] <;> rfl
theorem open2 {o : Int32} (hz : zb o) : 2 * o = if o = 0 then 0 else 2 := by
  rcases hz with h | h <;> rw [h] <;> rfl
theorem tn_val {x : Int32} {i : Nat} (hz : zb (f (16 + 8 * i + 4))) : sX8_clamp (f (16 + 8 * i + 3) + (if hot x = 0 then (if cold x = 0 then 1 else f (16 + 8 * i + 5) / 20 - 8) else 6) + 4 * f (16 + 8 * i + 4)) (-400) 400 = Tn f x i := by
  rw [open4 hz]; rfl
theorem fn_un {x c : Int32} {i : Nat} (hz : zb (f (16 + 8 * i + 4))) (h0 : 0 ≤ (f (16 + 8 * i + 5)).toInt) (h1 : (f (16 + 8 * i + 5)).toInt ≤ 100) (hh : hot x = 0) (hc : c = (if cold x = 0 then 0 else 1)) : (if f (16 + 8 * i + 5) + c + 2 * f (16 + 8 * i + 4) ≤ 100 then f (16 + 8 * i + 5) + c + 2 * f (16 + 8 * i + 4) else 100) = Fn f x i := by
  unfold Fn
  rw [if_pos hh, ← hc, ← open2 hz]
  have hcb : 0 ≤ c.toInt ∧ c.toInt ≤ 1 := by
    rw [hc]; split <;> decide
  have ho : 0 ≤ (2 * f (16 + 8 * i + 4)).toInt ∧ (2 * f (16 + 8 * i + 4)).toInt ≤ 2 := by
    rcases hz with h | h <;> rw [h] <;> decide
  have e1 : (f (16 + 8 * i + 5) + c).toInt = (f (16 + 8 * i + 5)).toInt + c.toInt := ia (by omega) (by omega)
  have e2 : (f (16 + 8 * i + 5) + c + 2 * f (16 + 8 * i + 4)).toInt = (f (16 + 8 * i + 5)).toInt + c.toInt + (2 * f (16 + 8 * i + 4)).toInt := by rw [ia (by omega) (by omega), e1]
  generalize f (16 + 8 * i + 5) + c + 2 * f (16 + 8 * i + 4) = v at e2 ⊢
  have e0 : (0 : Int32).toInt = 0 := rfl
  unfold sX8_clamp
  rw [if_pos (show (0 : Int32) ≤ v by rw [le_i, e0]; omega)]
theorem fn_hot1 {x : Int32} {i : Nat} (h1 : (f (16 + 8 * i + 5)).toInt ≤ 100) (hh : ¬ hot x = 0) (h : ¬ f (16 + 8 * i + 5) ≤ 10) : (if f (16 + 8 * i + 5) - 10 ≤ 100 then f (16 + 8 * i + 5) - 10 else 100) = Fn f x i := by
  have e0 : (0 : Int32).toInt = 0 := rfl
  have e10 : (10 : Int32).toInt = 10 := rfl
  unfold Fn sX8_clamp
  rw [le_i, e10] at h
  rw [if_neg hh, if_pos (show (0 : Int32) ≤ f (16 + 8 * i + 5) - 10 by rw [le_i, is_ (by omega) (by omega), e0, e10]; omega)]
theorem fn_hot0 {x : Int32} {i : Nat} (h0 : 0 ≤ (f (16 + 8 * i + 5)).toInt) (hh : ¬ hot x = 0) (h : f (16 + 8 * i + 5) ≤ 10) : (if (0 : Int32) ≤ 100 then 0 else 100) = Fn f x i := by
  have e0 : (0 : Int32).toInt = 0 := rfl
  have e10 : (10 : Int32).toInt = 10 := rfl
  have e100 : (100 : Int32).toInt = 100 := rfl
  rw [le_i, e10] at h
  have ed : (f (16 + 8 * i + 5) - 10).toInt = (f (16 + 8 * i + 5)).toInt - 10 := by rw [is_ (by omega) (by omega), e10]
  unfold Fn sX8_clamp
  rw [if_neg hh, if_pos (show (0 : Int32) ≤ 100 by decide)]
  by_cases c : (0 : Int32) ≤ f (16 + 8 * i + 5) - 10
  · rw [if_pos c, if_pos (show f (16 + 8 * i + 5) - 10 ≤ 100 by rw [le_i, ed, e100]; omega)]
    rw [le_i, e0] at c
    exact Int32.toInt_inj.mp (by rw [e0]; omega)
  · rw [if_neg c]
theorem add_back (a b : Int32) : b = a + (b - a) := by
  rw [Int32.add_comm, Int32.sub_add_cancel]
end P90
