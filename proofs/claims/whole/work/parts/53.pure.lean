/-! PURE: a room's minute -/
theorem neg_sub' (x : Int32) : -(8 - x) = x - 8 := Int32.neg_sub
theorem clampT (x : Int32) : (if (-400 : Int32) < (if x < 400 then x else 400) then (if x < 400 then x else 400) else (-400)) = sX8_clamp x (-400) 400 := by
  have e4 : (400 : Int32).toInt = 400 := rfl
  have em : (-400 : Int32).toInt = -400 := rfl
  unfold sX8_clamp
  by_cases h1 : x < 400
  · rw [if_pos h1]
    rw [lt_i, e4] at h1
    by_cases h2 : (-400 : Int32) < x
    · rw [lt_i, em] at h2
      rw [if_pos (by rw [lt_i, em]; exact h2), if_pos (by rw [le_i, em]; omega), if_pos (by rw [le_i, e4]; omega)]
    · rw [if_neg h2]
      rw [lt_i, em] at h2
      by_cases h3 : (-400 : Int32) ≤ x
      · rw [if_pos h3, if_pos (by rw [le_i, e4]; omega)]
        rw [le_i, em] at h3
        rw [eq_i, em]; omega
      · rw [if_neg h3]
  · rw [if_neg h1, if_pos (by decide)]
    rw [lt_i, e4] at h1
    rw [if_pos (by rw [le_i, em]; omega)]
    by_cases h2 : x ≤ 400
    · rw [if_pos h2]
      rw [le_i, e4] at h2
      rw [eq_i, e4]; omega
    · rw [if_neg h2]
theorem clampH {x : Int32} (h0 : 0 ≤ x.toInt) (h1 : x.toInt ≤ 100) : (if 0 < x - 10 then x - 10 else 0) = sX8_clamp (x - 10) 0 100 := by
  have e0 : (0 : Int32).toInt = 0 := rfl
  have e10 : (10 : Int32).toInt = 10 := rfl
  have e100 : (100 : Int32).toInt = 100 := rfl
  have ex : (x - 10).toInt = x.toInt - 10 := by rw [is_] <;> rw [e10] <;> omega
  unfold sX8_clamp
  by_cases h2 : 0 < x - 10
  · rw [if_pos h2]
    rw [lt_i, ex, e0] at h2
    rw [if_pos (by rw [le_i, ex, e0]; omega), if_pos (by rw [le_i, ex, e100]; omega)]
  · rw [if_neg h2]
    rw [lt_i, ex, e0] at h2
    by_cases h3 : (0 : Int32) ≤ x - 10
    · rw [if_pos h3, if_pos (by rw [le_i, ex, e100]; omega)]
      rw [le_i, ex, e0] at h3
      rw [eq_i, ex, e0]; omega
    · rw [if_neg h3]
theorem clampU {x : Int32} (h0 : 0 ≤ x.toInt) : (if x < 100 then x else 100) = sX8_clamp x 0 100 := by
  have e0 : (0 : Int32).toInt = 0 := rfl
  have e100 : (100 : Int32).toInt = 100 := rfl
  unfold sX8_clamp
  rw [if_pos (by rw [le_i, e0]; omega)]
  by_cases h1 : x < 100
  · rw [if_pos h1]
    rw [lt_i, e100] at h1
    rw [if_pos (by rw [le_i, e100]; omega)]
  · rw [if_neg h1]
    rw [lt_i, e100] at h1
    by_cases h2 : x ≤ 100
    · rw [if_pos h2]
      rw [le_i, e100] at h2
      rw [eq_i, e100]; omega
    · rw [if_neg h2]
theorem clamp_b (x : Int32) : 0 ≤ (sX8_clamp x 0 100).toInt ∧ (sX8_clamp x 0 100).toInt ≤ 100 := by
  have e0 : (0 : Int32).toInt = 0 := rfl
  have e100 : (100 : Int32).toInt = 100 := rfl
  unfold sX8_clamp
  by_cases h1 : (0 : Int32) ≤ x
  · rw [if_pos h1]
    rw [le_i, e0] at h1
    by_cases h2 : x ≤ 100
    · rw [if_pos h2]; rw [le_i, e100] at h2; omega
    · rw [if_neg h2, e100]; omega
  · rw [if_neg h1, e0]; omega
/-- by how much a room's temperature goes -/
def chg (r : Nat → Int32) : Int32 := if sX2_isHeated r = 0 then (if sX2_isCooled r = 0 then 1 else r 6 / 20 - 8) else 6
theorem ct_eq (r : Nat → Int32) : sX2_changeTemperature r = upd r 4 (sX8_clamp (r 4 + chg r + (if r 5 = 0 then 0 else 4)) (-400) 400) := by
  unfold sX2_changeTemperature sX2_changeTemperature_j34 sX2_changeTemperature_j44
  rw [neg_sub']
  show upd r 4 (if (-400 : Int32) < (if r 4 + (if r 5 = 0 then chg r else chg r + 4) < 400 then r 4 + (if r 5 = 0 then chg r else chg r + 4) else 400) then (if r 4 + (if r 5 = 0 then chg r else chg r + 4) < 400 then r 4 + (if r 5 = 0 then chg r else chg r + 4) else 400) else (-400)) = _
  rw [clampT]
  by_cases h : r 5 = 0
  · rw [if_pos h, if_pos h, Int32.add_zero]
  · rw [if_neg h, if_neg h, Int32.add_assoc]
theorem cf_h {r : Nat → Int32} (h : ¬ sX2_isHeated r = 0) (h0 : 0 ≤ (r 6).toInt) (h1 : (r 6).toInt ≤ 100) : sX2_changeFrost r = upd (upd r 6 (sX8_clamp (r 6 - 10) 0 100)) 7 (if sX8_clamp (r 6 - 10) 0 100 = 0 then 0 else r 7 - 1) := by
  unfold sX2_changeFrost
  rw [if_neg h, clampH h0 h1]
  by_cases h2 : sX8_clamp (r 6 - 10) 0 100 = 0
  · rw [if_pos h2, if_pos h2]
  · rw [if_neg h2, if_neg h2]
theorem cf_u {r : Nat → Int32} (h : sX2_isHeated r = 0) (h0 : 0 ≤ (r 6).toInt) (h1 : (r 6).toInt ≤ 100) : sX2_changeFrost r = upd r 6 (sX8_clamp (r 6 + (if sX2_isCooled r = 0 then 0 else 1) + (if r 5 = 0 then 0 else 2)) 0 100) := by
  unfold sX2_changeFrost sX2_changeFrost_j56 sX2_changeFrost_j68
  rw [if_pos h, ← Int32.add_assoc, clampU]
  have e0 : (0 : Int32).toInt = 0 := rfl
  have e1 : (1 : Int32).toInt = 1 := rfl
  have e2 : (2 : Int32).toInt = 2 := rfl
  have a : 0 ≤ (if sX2_isCooled r = 0 then 0 else 1 : Int32).toInt ∧ (if sX2_isCooled r = 0 then 0 else 1 : Int32).toInt ≤ 1 := by
    by_cases q : sX2_isCooled r = 0
    · rw [if_pos q, e0]; omega
    · rw [if_neg q, e1]; omega
  have b : 0 ≤ (if r 5 = 0 then 0 else 2 : Int32).toInt ∧ (if r 5 = 0 then 0 else 2 : Int32).toInt ≤ 2 := by
    by_cases q : r 5 = 0
    · rw [if_pos q, e0]; omega
    · rw [if_neg q, e2]; omega
  have e3 : (r 6 + (if sX2_isCooled r = 0 then 0 else 1)).toInt = (r 6).toInt + (if sX2_isCooled r = 0 then 0 else 1 : Int32).toInt := ia (by omega) (by omega)
  rw [ia (by omega) (by omega)]
  omega
theorem cm_eq (g r : Nat → Int32) : sX5_countMinute g r = (upd (upd (upd g 7 (g 7 + (if r 9 = 4 then 1 else 0))) 8 (g 8 + (if r 9 = 6 then 1 else 0))) 9 (g 9 + (if r 4 < r 3 then 0 else 1)), upd r 8 (r 8 + (if sX2_isCooled r = 0 then 0 else 1))) := by
  unfold sX5_countMinute sX5_countMinute_j17 sX5_countMinute_j39 sX5_countMinute_j62
  have hw : ∀ x, sX2_isWarm (upd r 8 x) = if r 4 < r 3 then 0 else 1 := fun x => rfl
  rw [hw]
  by_cases h : r 4 < r 3
  · rw [if_pos h, if_pos rfl, if_pos h]
  · rw [if_neg h, if_neg (by decide), if_neg h]
/-- the reference's end of a room's minute -/
def finM (F : Nat → Int32) (i : Nat) (b w l : Int32) : Nat → Int32 :=
  if sX8_isWarm (upd (upd (upd F 6 (F 6 + b)) 7 (F 7 + w)) 8 (F 8 + l)) i = 0 then upd (upd (upd (upd F 6 (F 6 + b)) 7 (F 7 + w)) 8 (F 8 + l)) 9 (F 9 + 0) else upd (upd (upd (upd F 6 (F 6 + b)) 7 (F 7 + w)) 8 (F 8 + l)) 9 (F 9 + 1)
theorem finM_eq (F : Nat → Int32) (i : Nat) (b w l : Int32) : finM F i b w l = upd (upd (upd (upd F 6 (F 6 + b)) 7 (F 7 + w)) 8 (F 8 + l)) 9 (F 9 + (if F (16 + 8 * i + 3) < F (16 + 8 * i + 2) then 0 else 1)) := by
  have hw : sX8_isWarm (upd (upd (upd F 6 (F 6 + b)) 7 (F 7 + w)) 8 (F 8 + l)) i = if F (16 + 8 * i + 3) < F (16 + 8 * i + 2) then 0 else 1 := by
    unfold sX8_isWarm sX8_of
    rw [pk_un (by omega), pk_un (by omega), pk_un (by omega), pk_un (by omega), pk_un (by omega), pk_un (by omega)]
  unfold finM
  rw [hw]
  by_cases h : F (16 + 8 * i + 3) < F (16 + 8 * i + 2)
  · rw [if_pos h, if_pos rfl, if_pos h]
  · rw [if_neg h, if_neg (by decide), if_neg h]
def bz (c : Prop) [Decidable c] : Int32 := if c then 1 else 0
section P4
variable (jb f : Nat → Int32) (i : Nat) (x1 : Int32)
/-- the reference's room, unheated -/
def MU (f : Nat → Int32) (i : Nat) (x1 by5 c : Int32) (w l : Int32) : Nat → Int32 :=
  finM (sX8_lay (sX8_lay (sX8_lay f i 3 (sX8_clamp (((sX8_of f i 3) + by5) + (if x1 = 0 then 0 else 4)) (-400) 400)) i 5 (sX8_clamp (((sX8_of (sX8_lay f i 3 (sX8_clamp (((sX8_of f i 3) + by5) + (if x1 = 0 then 0 else 4)) (-400) 400)) i 5) + c) + (if x1 = 0 then 0 else 2)) 0 100)) i 7 ((sX8_of (sX8_lay (sX8_lay f i 3 (sX8_clamp (((sX8_of f i 3) + by5) + (if x1 = 0 then 0 else 4)) (-400) 400)) i 5 (sX8_clamp (((sX8_of (sX8_lay f i 3 (sX8_clamp (((sX8_of f i 3) + by5) + (if x1 = 0 then 0 else 4)) (-400) 400)) i 5) + c) + (if x1 = 0 then 0 else 2)) 0 100)) i 7) + c)) i 0 w l
theorem mu_cool (h : jb i = 1 ∨ jb i = 3) : sX8_roomOn jb f i = MU f i (if sX8_of f i 4 = 1 then 1 else 0) (sX8_of f i 5 / 20 - 8) 1 (if jb i = 4 then 1 else 0) (if jb i = 6 then 1 else 0) := by
  have e : sX8_roomOn jb f i = sX8_roomOn (fun _ => jb i) f i := rfl
  rw [e]
  rcases h with h | h <;> rw [h] <;> rfl
theorem mu_idle (h : jb i = 4 ∨ jb i = 6 ∨ jb i = 7) : sX8_roomOn jb f i = MU f i (if sX8_of f i 4 = 1 then 1 else 0) 1 0 (if jb i = 4 then 1 else 0) (if jb i = 6 then 1 else 0) := by
  have e : sX8_roomOn jb f i = sX8_roomOn (fun _ => jb i) f i := rfl
  rw [e]
  rcases h with h | h | h <;> rw [h] <;> rfl
/-- the reference's room, heated -/
def F1H (f : Nat → Int32) (i : Nat) (x1 : Int32) : Nat → Int32 := sX8_lay f i 3 (sX8_clamp (((sX8_of f i 3) + 6) + (if x1 = 0 then 0 else 4)) (-400) 400)
def F2H (f : Nat → Int32) (i : Nat) (x1 : Int32) : Nat → Int32 := sX8_lay (F1H f i x1) i 5 (sX8_clamp ((sX8_of (F1H f i x1) i 5) - 10) 0 100)
def F3H (f : Nat → Int32) (i : Nat) (x1 lf : Int32) : Nat → Int32 := sX8_lay (F2H f i x1) i 6 (if (sX8_of (F2H f i x1) i 5) = 0 then 0 else (lf - 1))
theorem mh_0 (h : jb i = 0) : sX8_roomOn jb f i = finM (sX8_lay (F3H f i (if sX8_of f i 4 = 1 then 1 else 0) (sX8_of (F1H f i (if sX8_of f i 4 = 1 then 1 else 0)) i 6)) i 7 (sX8_of (F3H f i (if sX8_of f i 4 = 1 then 1 else 0) (sX8_of (F1H f i (if sX8_of f i 4 = 1 then 1 else 0)) i 6)) i 7 + 0)) i 0 (if jb i = 4 then 1 else 0) (if jb i = 6 then 1 else 0) := by
  have e : sX8_roomOn jb f i = sX8_roomOn (fun _ => jb i) f i := rfl
  rw [e, h]
  rfl
theorem mh_b (h : jb i = 2 ∨ jb i = 5) : sX8_roomOn jb f i = finM (sX8_lay (F3H f i (if sX8_of f i 4 = 1 then 1 else 0) (F1H f i (if sX8_of f i 4 = 1 then 1 else 0) 15)) i 7 (sX8_of (F3H f i (if sX8_of f i 4 = 1 then 1 else 0) (F1H f i (if sX8_of f i 4 = 1 then 1 else 0) 15)) i 7 + 0)) i 1 (if jb i = 4 then 1 else 0) (if jb i = 6 then 1 else 0) := by
  have e : sX8_roomOn jb f i = sX8_roomOn (fun _ => jb i) f i := rfl
  rw [e]
  rcases h with h | h <;> rw [h] <;> rfl
end P4
