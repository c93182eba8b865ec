/-! PURE: a room's minute -/
theorem neg_sub' (x : Int32) : -(8 - x) = x - 8 := Int32.neg_sub
theorem clampT (x : Int32) : (if (-400 : Int32) < (if x < 400 then x else 400) then (if x < 400 then x else 400) else (-400)) = sX8_clamp x (-400) 400 := by
  have e4 : (400 : Int32).toInt = 400 := rfl
  have em : (-400 : Int32).toInt = -400 := rfl
  unfold sX8_clamp
  by_cases h1 : x < 400
  · rw [if_pos h1]
    rw [lt_i, e4] at h1
    by_cases h2 : (-400 : Int32) < x
    · rw [lt_i, em] at h2
      rw [if_pos (by rw [lt_i, em]; exact h2), if_pos (by rw [le_i, em]; omega), if_pos (by rw [le_i, e4]; omega)]
    · rw [if_neg h2]
      rw [lt_i, em] at h2
      by_cases h3 : (-400 : Int32) ≤ x
      · rw [if_pos h3, if_pos (by rw [le_i, e4]; omega)]
        rw [le_i, em] at h3
        rw [eq_i, em]; omega
      · rw [if_neg h3]
  · rw [if_neg h1, if_pos (by decide)]
    rw [lt_i, e4] at h1
    rw [if_pos (by rw [le_i, em]; omega)]
    by_cases h2 : x ≤ 400
    · rw [if_pos h2]
      rw [le_i, e4] at h2
      rw [eq_i, e4]; omega
    · rw [if_neg h2]
theorem clampH {x : Int32} (h0 : 0 ≤ x.toInt) (h1 : x.toInt ≤ 100) : (if 0 < x - 10 then x - 10 else 0) = sX8_clamp (x - 10) 0 100 := by
  have e0 : (0 : Int32).toInt = 0 := rfl
  have e10 : (10 : Int32).toInt = 10 := rfl
  have e100 : (100 : Int32).toInt = 100 := rfl
  have ex : (x - 10).toInt = x.toInt - 10 := by rw [is_] <;> rw [e10] <;> omega
  unfold sX8_clamp
  by_cases h2 : 0 < x - 10
  · rw [if_pos h2]
    rw [lt_i, ex, e0] at h2
    rw [if_pos (by rw [le_i, ex, e0]; omega), if_pos (by rw [le_i, ex, e100]; omega)]
  · rw [if_neg h2]
    rw [lt_i, ex, e0] at h2
    by_cases h3 : (0 : Int32) ≤ x - 10
    · rw [if_pos h3, if_pos (by rw [le_i, ex, e100]; omega)]
      rw [le_i, ex, e0] at h3
      rw [eq_i, ex, e0]; omega
    · rw [if_neg h3]
theorem clampU {x : Int32} (h0 : 0 ≤ x.toInt) : (if x < 100 then x else 100) = sX8_clamp x 0 100 := by
  have e0 : (0 : Int32).toInt = 0 := rfl
  have e100 : (100 : Int32).toInt = 100 := rfl
  have hx : (0 : Int32) ≤ x := by rw [le_i, e0]; exact h0
  unfold sX8_clamp
  rw [if_pos hx]
  by_cases h1 : x < 100
  · have h2 : x ≤ 100 := Int32.le_of_lt h1
    rw [if_pos h1, if_pos h2]
  · rw [if_neg h1]
    rw [lt_i, e100] at h1
    by_cases h2 : x ≤ 100
    · rw [if_pos h2]
      rw [le_i, e100] at h2
      rw [eq_i, e100]; omega
    · rw [if_neg h2]
theorem clamp_b (x : Int32) : 0 ≤ (sX8_clamp x 0 100).toInt ∧ (sX8_clamp x 0 100).toInt ≤ 100 := by
  have e0 : (0 : Int32).toInt = 0 := rfl
  have e100 : (100 : Int32).toInt = 100 := rfl
  unfold sX8_clamp
  by_cases h1 : (0 : Int32) ≤ x
  · rw [if_pos h1]
    rw [le_i, e0] at h1
    by_cases h2 : x ≤ 100
    · rw [if_pos h2]; rw [le_i, e100] at h2; omega
    · rw [if_neg h2, e100]; omega
  · rw [if_neg h1, e0]; omega
theorem clamp_T (x : Int32) : -400 ≤ (sX8_clamp x (-400) 400).toInt ∧ (sX8_clamp x (-400) 400).toInt ≤ 400 := by
  have e0 : (-400 : Int32).toInt = -400 := rfl
  have e100 : (400 : Int32).toInt = 400 := rfl
  unfold sX8_clamp
  by_cases h1 : (-400 : Int32) ≤ x
  · rw [if_pos h1]
    rw [le_i, e0] at h1
    by_cases h2 : x ≤ 400
    · rw [if_pos h2]; rw [le_i, e100] at h2; omega
    · rw [if_neg h2, e100]; omega
  · rw [if_neg h1, e0]; omega
/-- by how much a room's temperature goes -/
def chg (r : Nat → Int32) : Int32 := if sX2_isHeated r = 0 then (if sX2_isCooled r = 0 then 1 else r 6 / 20 - 8) else 6
theorem ct_eq (r : Nat → Int32) : sX2_changeTemperature r = upd r 4 (sX8_clamp (r 4 + chg r + (if r 5 = 0 then 0 else 4)) (-400) 400) := by
  unfold sX2_changeTemperature sX2_changeTemperature_j34 sX2_changeTemperature_j44
  rw [neg_sub']
  show upd r 4 (if (-400 : Int32) < (if r 4 + (if r 5 = 0 then chg r else chg r + 4) < 400 then r 4 + (if r 5 = 0 then chg r else chg r + 4) else 400) then (if r 4 + (if r 5 = 0 then chg r else chg r + 4) < 400 then r 4 + (if r 5 = 0 then chg r else chg r + 4) else 400) else (-400)) = _
  rw [clampT]
  by_cases h : r 5 = 0
  · rw [if_pos h, if_pos h, Int32.add_zero]
  · rw [if_neg h, if_neg h, Int32.add_assoc]
theorem cf_h {r : Nat → Int32} (h : ¬ sX2_isHeated r = 0) (h0 : 0 ≤ (r 6).toInt) (h1 : (r 6).toInt ≤ 100) : sX2_changeFrost r = upd (upd r 6 (sX8_clamp (r 6 - 10) 0 100)) 7 (if sX8_clamp (r 6 - 10) 0 100 = 0 then 0 else r 7 - 1) := by
  unfold sX2_changeFrost
  rw [if_neg h, clampH h0 h1]
  by_cases h2 : sX8_clamp (r 6 - 10) 0 100 = 0
  · rw [if_pos h2, if_pos h2]
  · rw [if_neg h2, if_neg h2]
theorem cf_u {r : Nat → Int32} (h : sX2_isHeated r = 0) (h0 : 0 ≤ (r 6).toInt) (h1 : (r 6).toInt ≤ 100) : sX2_changeFrost r = upd r 6 (sX8_clamp (r 6 + (if sX2_isCooled r = 0 then 0 else 1) + (if r 5 = 0 then 0 else 2)) 0 100) := by
  unfold sX2_changeFrost sX2_changeFrost_j56 sX2_changeFrost_j68
  rw [if_pos h, ← Int32.add_assoc, clampU]
  have e0 : (0 : Int32).toInt = 0 := rfl
  have e1 : (1 : Int32).toInt = 1 := rfl
  have e2 : (2 : Int32).toInt = 2 := rfl
  have a : 0 ≤ (if sX2_isCooled r = 0 then 0 else 1 : Int32).toInt ∧ (if sX2_isCooled r = 0 then 0 else 1 : Int32).toInt ≤ 1 := by
    by_cases q : sX2_isCooled r = 0
    · rw [if_pos q, e0]; omega
    · rw [if_neg q, e1]; omega
  have b : 0 ≤ (if r 5 = 0 then 0 else 2 : Int32).toInt ∧ (if r 5 = 0 then 0 else 2 : Int32).toInt ≤ 2 := by
    by_cases q : r 5 = 0
    · rw [if_pos q, e0]; omega
    · rw [if_neg q, e2]; omega
  have e3 : (r 6 + (if sX2_isCooled r = 0 then 0 else 1)).toInt = (r 6).toInt + (if sX2_isCooled r = 0 then 0 else 1 : Int32).toInt := ia (by omega) (by omega)
  rw [ia (by omega) (by omega)]
  omega
theorem cmin_eq (g r : Nat → Int32) : sX5_countMinute g r = (upd (upd (upd g 7 (g 7 + (if r 9 = 4 then 1 else 0))) 8 (g 8 + (if r 9 = 6 then 1 else 0))) 9 (g 9 + (if r 4 < r 3 then 0 else 1)), upd r 8 (r 8 + (if sX2_isCooled r = 0 then 0 else 1))) := by
  unfold sX5_countMinute sX5_countMinute_j17 sX5_countMinute_j39 sX5_countMinute_j62
  have hw : ∀ x, sX2_isWarm (upd r 8 x) = if r 4 < r 3 then 0 else 1 := fun x => rfl
  rw [hw]
  by_cases h : r 4 < r 3
  · rw [if_pos h, if_pos rfl]
  · rw [if_neg h, if_neg (by decide)]
/-- the reference's end of a room's minute -/
def finM (F : Nat → Int32) (i : Nat) (b w l : Int32) : Nat → Int32 :=
  if sX8_isWarm (upd (upd (upd F 6 (F 6 + b)) 7 (F 7 + w)) 8 (F 8 + l)) i = 0 then upd (upd (upd (upd F 6 (F 6 + b)) 7 (F 7 + w)) 8 (F 8 + l)) 9 (F 9 + 0) else upd (upd (upd (upd F 6 (F 6 + b)) 7 (F 7 + w)) 8 (F 8 + l)) 9 (F 9 + 1)
theorem finM_eq (F : Nat → Int32) (i : Nat) (b w l : Int32) : finM F i b w l = upd (upd (upd (upd F 6 (F 6 + b)) 7 (F 7 + w)) 8 (F 8 + l)) 9 (F 9 + (if F (16 + 8 * i + 3) < F (16 + 8 * i + 2) then 0 else 1)) := by
  have hw : sX8_isWarm (upd (upd (upd F 6 (F 6 + b)) 7 (F 7 + w)) 8 (F 8 + l)) i = if F (16 + 8 * i + 3) < F (16 + 8 * i + 2) then 0 else 1 := by
    unfold sX8_isWarm sX8_of
    rw [pk_un (by omega), pk_un (by omega), pk_un (by omega), pk_un (by omega), pk_un (by omega), pk_un (by omega)]
  unfold finM
  rw [hw]
  by_cases h : F (16 + 8 * i + 3) < F (16 + 8 * i + 2)
  · rw [if_pos h, if_pos rfl]
  · rw [if_neg h, if_neg (by decide)]
def bz (c : Prop) [Decidable c] : Int32 := if c then 1 else 0
section P4
variable (jb f : Nat → Int32) (i : Nat) (x1 : Int32)
/-- the reference's room, unheated -/
def MU (f : Nat → Int32) (i : Nat) (x1 by5 c : Int32) (w l : Int32) : Nat → Int32 :=
  finM (sX8_lay (sX8_lay (sX8_lay f i 3 (sX8_clamp (((sX8_of f i 3) + by5) + (if x1 = 0 then 0 else 4)) (-400) 400)) i 5 (sX8_clamp (((sX8_of (sX8_lay f i 3 (sX8_clamp (((sX8_of f i 3) + by5) + (if x1 = 0 then 0 else 4)) (-400) 400)) i 5) + c) + (if x1 = 0 then 0 else 2)) 0 100)) i 7 ((sX8_of (sX8_lay (sX8_lay f i 3 (sX8_clamp (((sX8_of f i 3) + by5) + (if x1 = 0 then 0 else 4)) (-400) 400)) i 5 (sX8_clamp (((sX8_of (sX8_lay f i 3 (sX8_clamp (((sX8_of f i 3) + by5) + (if x1 = 0 then 0 else 4)) (-400) 400)) i 5) + c) + (if x1 = 0 then 0 else 2)) 0 100)) i 7) + c)) i 0 w l
theorem mu_cool (h : jb i = 1 ∨ jb i = 3) : sX8_roomOn jb f i = MU f i (if sX8_of f i 4 = 1 then 1 else 0) (sX8_of f i 5 / 20 - 8) 1 (if jb i = 4 then 1 else 0) (if jb i = 6 then 1 else 0) := by
  have e : sX8_roomOn jb f i = sX8_roomOn (fun _ => jb i) f i := rfl
  rw [e]
  rcases h with h | h <;> rw [h] <;> rfl
theorem mu_idle (h : jb i = 4 ∨ jb i = 6 ∨ jb i = 7) : sX8_roomOn jb f i = MU f i (if sX8_of f i 4 = 1 then 1 else 0) 1 0 (if jb i = 4 then 1 else 0) (if jb i = 6 then 1 else 0) := by
  have e : sX8_roomOn jb f i = sX8_roomOn (fun _ => jb i) f i := rfl
  rw [e]
  rcases h with h | h | h <;> rw [h] <;> rfl
/-- the reference's room, heated -/
def F1H (f : Nat → Int32) (i : Nat) (x1 : Int32) : Nat → Int32 := sX8_lay f i 3 (sX8_clamp (((sX8_of f i 3) + 6) + (if x1 = 0 then 0 else 4)) (-400) 400)
def F2H (f : Nat → Int32) (i : Nat) (x1 : Int32) : Nat → Int32 := sX8_lay (F1H f i x1) i 5 (sX8_clamp ((sX8_of (F1H f i x1) i 5) - 10) 0 100)
def F3H (f : Nat → Int32) (i : Nat) (x1 lf : Int32) : Nat → Int32 := sX8_lay (F2H f i x1) i 6 (if (sX8_of (F2H f i x1) i 5) = 0 then 0 else (lf - 1))
theorem mh_0 (h : jb i = 0) : sX8_roomOn jb f i = finM (sX8_lay (F3H f i (if sX8_of f i 4 = 1 then 1 else 0) (sX8_of (F1H f i (if sX8_of f i 4 = 1 then 1 else 0)) i 6)) i 7 (sX8_of (F3H f i (if sX8_of f i 4 = 1 then 1 else 0) (sX8_of (F1H f i (if sX8_of f i 4 = 1 then 1 else 0)) i 6)) i 7 + 0)) i 0 (if jb i = 4 then 1 else 0) (if jb i = 6 then 1 else 0) := by
  have e : sX8_roomOn jb f i = sX8_roomOn (fun _ => jb i) f i := rfl
  rw [e, h]
  rfl
theorem mh_b (h : jb i = 2 ∨ jb i = 5) : sX8_roomOn jb f i = finM (sX8_lay (F3H f i (if sX8_of f i 4 = 1 then 1 else 0) (F1H f i (if sX8_of f i 4 = 1 then 1 else 0) 15)) i 7 (sX8_of (F3H f i (if sX8_of f i 4 = 1 then 1 else 0) (F1H f i (if sX8_of f i 4 = 1 then 1 else 0) 15)) i 7 + 0)) i 1 (if jb i = 4 then 1 else 0) (if jb i = 6 then 1 else 0) := by
  have e : sX8_roomOn jb f i = sX8_roomOn (fun _ => jb i) f i := rfl
  rw [e]
  rcases h with h | h <;> rw [h] <;> rfl
end P4
/-- a room's minute, both sides: T, Fr, L, c, b what comes of it -/
def RES (r g R G : Nat → Int32) (T Fr L c b : Int32) : Prop :=
  R 0 = r 0 ∧ R 1 = r 1 ∧ R 2 = r 2 ∧ R 3 = r 3 ∧ R 4 = T ∧ R 5 = r 5 ∧ R 6 = Fr ∧ R 7 = L ∧ R 8 = r 8 + c ∧ G 1 = g 1 ∧ G 2 = g 2 ∧ G 3 = g 3 ∧ G 4 = g 4 ∧ G 5 = g 5 ∧ G 6 = g 6 + b ∧ G 7 = g 7 + (if r 9 = 4 then 1 else 0) ∧ G 8 = g 8 + (if r 9 = 6 then 1 else 0) ∧ G 9 = g 9 + (if T < r 3 then 0 else 1)
def hot (p : Int32) : Int32 := if p = 0 then 1 else if p = 2 then 1 else if p = 5 then 1 else 0
def cold (p : Int32) : Int32 := if p = 1 then 1 else if p = 3 then 1 else 0
def cstep (g u r : Nat → Int32) : (Nat → Int32) × (Nat → Int32) := sX5_countMinute (sX5_beginDefrost g u r).1 (sX2_changeFrost (sX2_changeTemperature (sX5_beginDefrost g u r).2))
theorem c_unhot {g u r : Nat → Int32} (hp : hot (r 9) = 0) (h0 : 0 ≤ (r 6).toInt) (h1 : (r 6).toInt ≤ 100) : RES r g (cstep g u r).2 (cstep g u r).1 (sX8_clamp (r 4 + (if cold (r 9) = 0 then 1 else r 6 / 20 - 8) + (if r 5 = 0 then 0 else 4)) (-400) 400) (sX8_clamp (r 6 + (if cold (r 9) = 0 then 0 else 1) + (if r 5 = 0 then 0 else 2)) 0 100) (r 7) (if cold (r 9) = 0 then 0 else 1) 0 := by
  have hb : sX5_beginDefrost g u r = (g, r) := by
    unfold sX5_beginDefrost
    have h2 : ¬ r 9 = 2 := fun q => by rw [q] at hp; exact absurd hp (by decide)
    have h5 : ¬ r 9 = 5 := fun q => by rw [q] at hp; exact absurd hp (by decide)
    rw [if_neg h2, if_neg h5]
  have hH : ∀ (r' : Nat → Int32), r' 9 = r 9 → sX2_isHeated r' = 0 := fun r' e => by
    show (if r' 9 = 0 then 1 else if r' 9 = 2 then 1 else if r' 9 = 5 then 1 else 0 : Int32) = 0
    rw [e]; exact hp
  have hC : ∀ (r' : Nat → Int32), r' 9 = r 9 → sX2_isCooled r' = cold (r 9) := fun r' e => by
    show (if r' 9 = 1 then 1 else if r' 9 = 3 then 1 else 0 : Int32) = _
    rw [e]; rfl
  have hch : chg r = if cold (r 9) = 0 then 1 else r 6 / 20 - 8 := by
    unfold chg
    rw [if_pos (hH r rfl), hC r rfl]
  unfold cstep
  rw [hb]
  show RES r g (sX5_countMinute g (sX2_changeFrost (sX2_changeTemperature r))).2 (sX5_countMinute g (sX2_changeFrost (sX2_changeTemperature r))).1 _ _ _ _ _
  rw [ct_eq, hch]
  generalize sX8_clamp (r 4 + (if cold (r 9) = 0 then 1 else r 6 / 20 - 8) + (if r 5 = 0 then 0 else 4)) (-400) 400 = T
  rw [cf_u (r := upd r 4 T) (hH _ rfl) h0 h1, hC (upd r 4 T) rfl]
  show RES r g (sX5_countMinute g (upd (upd r 4 T) 6 (sX8_clamp (r 6 + (if cold (r 9) = 0 then 0 else 1) + (if r 5 = 0 then 0 else 2)) 0 100))).2 (sX5_countMinute g (upd (upd r 4 T) 6 (sX8_clamp (r 6 + (if cold (r 9) = 0 then 0 else 1) + (if r 5 = 0 then 0 else 2)) 0 100))).1 _ _ _ _ _
  generalize sX8_clamp (r 6 + (if cold (r 9) = 0 then 0 else 1) + (if r 5 = 0 then 0 else 2)) 0 100 = Fr
  rw [cmin_eq, hC (upd (upd r 4 T) 6 Fr) rfl]
  exact ⟨rfl, rfl, rfl, rfl, rfl, rfl, rfl, rfl, rfl, rfl, rfl, rfl, rfl, rfl, (Int32.add_zero _).symm, rfl, rfl, rfl⟩
theorem c_hot {g u r : Nat → Int32} (hp : ¬ hot (r 9) = 0) (h0 : 0 ≤ (r 6).toInt) (h1 : (r 6).toInt ≤ 100) : RES r g (cstep g u r).2 (cstep g u r).1 (sX8_clamp (r 4 + 6 + (if r 5 = 0 then 0 else 4)) (-400) 400) (sX8_clamp (r 6 - 10) 0 100) (if sX8_clamp (r 6 - 10) 0 100 = 0 then 0 else (if r 9 = 0 then r 7 else u 5) - 1) 0 (if r 9 = 0 then 0 else 1) := by
  have hb : sX5_beginDefrost g u r = (upd g 6 (g 6 + (if r 9 = 0 then 0 else 1)), upd r 7 (if r 9 = 0 then r 7 else u 5)) := by
    have e7 : upd r 7 (r 7) = r := by
      funext j
      unfold upd
      by_cases hj : j = 7
      · rw [if_pos hj, hj]
      · rw [if_neg hj]
    have e6 : upd g 6 (g 6 + 0) = g := by
      funext j
      unfold upd
      by_cases hj : j = 6
      · rw [if_pos hj, hj, Int32.add_zero]
      · rw [if_neg hj]
    unfold sX5_beginDefrost
    by_cases h9 : r 9 = 0
    · have h2 : ¬ r 9 = 2 := fun q => by rw [h9] at q; exact absurd q (by decide)
      have h5 : ¬ r 9 = 5 := fun q => by rw [h9] at q; exact absurd q (by decide)
      rw [if_neg h2, if_neg h5, if_pos h9, if_pos h9, e7, e6]
    · rw [if_neg h9, if_neg h9]
      by_cases h2 : r 9 = 2
      · rw [if_pos h2]
      · rw [if_neg h2]
        by_cases h5 : r 9 = 5
        · rw [if_pos h5]
        · exfalso
          apply hp
          unfold hot
          rw [if_neg h9, if_neg h2, if_neg h5]
  have hH : ∀ (r' : Nat → Int32), r' 9 = r 9 → ¬ sX2_isHeated r' = 0 := fun r' e => by
    show ¬ (if r' 9 = 0 then 1 else if r' 9 = 2 then 1 else if r' 9 = 5 then 1 else 0 : Int32) = 0
    rw [e]; exact hp
  have hC : ∀ (r' : Nat → Int32), r' 9 = r 9 → sX2_isCooled r' = 0 := fun r' e => by
    show (if r' 9 = 1 then 1 else if r' 9 = 3 then 1 else 0 : Int32) = 0
    have a1 : ¬ r' 9 = 1 := fun q => by rw [← e, q] at hp; exact hp (by decide)
    have a3 : ¬ r' 9 = 3 := fun q => by rw [← e, q] at hp; exact hp (by decide)
    rw [if_neg a1, if_neg a3]
  unfold cstep
  rw [hb]
  generalize (if r 9 = 0 then r 7 else u 5) = lf
  generalize (if r 9 = 0 then 0 else 1 : Int32) = b
  show RES r g (sX5_countMinute (upd g 6 (g 6 + b)) (sX2_changeFrost (sX2_changeTemperature (upd r 7 lf)))).2 (sX5_countMinute (upd g 6 (g 6 + b)) (sX2_changeFrost (sX2_changeTemperature (upd r 7 lf)))).1 _ _ _ _ _
  have hch : chg (upd r 7 lf) = 6 := by
    unfold chg
    rw [if_neg (hH (upd r 7 lf) rfl)]
  rw [ct_eq, hch]
  show RES r g (sX5_countMinute (upd g 6 (g 6 + b)) (sX2_changeFrost (upd (upd r 7 lf) 4 (sX8_clamp (r 4 + 6 + (if r 5 = 0 then 0 else 4)) (-400) 400)))).2 (sX5_countMinute (upd g 6 (g 6 + b)) (sX2_changeFrost (upd (upd r 7 lf) 4 (sX8_clamp (r 4 + 6 + (if r 5 = 0 then 0 else 4)) (-400) 400)))).1 _ _ _ _ _
  generalize sX8_clamp (r 4 + 6 + (if r 5 = 0 then 0 else 4)) (-400) 400 = T
  rw [cf_h (r := upd (upd r 7 lf) 4 T) (hH _ rfl) h0 h1]
  show RES r g (sX5_countMinute (upd g 6 (g 6 + b)) (upd (upd (upd (upd r 7 lf) 4 T) 6 (sX8_clamp (r 6 - 10) 0 100)) 7 (if sX8_clamp (r 6 - 10) 0 100 = 0 then 0 else lf - 1))).2 (sX5_countMinute (upd g 6 (g 6 + b)) (upd (upd (upd (upd r 7 lf) 4 T) 6 (sX8_clamp (r 6 - 10) 0 100)) 7 (if sX8_clamp (r 6 - 10) 0 100 = 0 then 0 else lf - 1))).1 _ _ _ _ _
  generalize sX8_clamp (r 6 - 10) 0 100 = Fr
  generalize (if Fr = 0 then 0 else lf - 1) = L
  rw [cmin_eq, hC (upd (upd (upd (upd r 7 lf) 4 T) 6 Fr) 7 L) rfl, if_pos rfl]
  exact ⟨rfl, rfl, rfl, rfl, rfl, rfl, rfl, rfl, rfl, rfl, rfl, rfl, rfl, rfl, rfl, rfl, rfl, rfl⟩
