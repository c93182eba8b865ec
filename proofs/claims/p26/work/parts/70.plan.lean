/-! PURE: what the plan of a minute says of each room -/
theorem mnw_pos0 {jb f : Nat → Int32} {n : Nat} : ∀ (d i : Nat) (w : Option Nat) (k : Nat), (∀ k, w = some k → ¬ sX8_over f k ≤ 0) → lp_X8_nextWarm_4 jb f n d i w = some k → ¬ sX8_over f k ≤ 0
  | 0, i, w, k, hw, h => by
    cases w with
    | none => cases h
    | some j => cases h; exact hw k rfl
  | d + 1, i, w, k, hw, h => by
    have key : ∀ w', (w' = w ∨ (w' = some i ∧ ¬ sX8_over f i ≤ 0)) → lp_X8_nextWarm_4 jb f n d (i + 1) w' = some k → ¬ sX8_over f k ≤ 0 := by
      intro w' h1 h2
      refine mnw_pos0 d (i + 1) w' k ?_ h2
      rcases h1 with rfl | ⟨rfl, h3⟩
      · exact hw
      · intro k2 e; cases e; exact h3
    unfold lp_X8_nextWarm_4 at h
    cases w with
    | none =>
      simp only [oe] at h
      repeat' split at h
      all_goals first
        | exact key _ (Or.inl rfl) h
        | exact key _ (Or.inr ⟨rfl, by assumption⟩) h
        | (exfalso; simp_all; done)
    | some j =>
      simp only [oe] at h
      repeat' split at h
      all_goals first
        | exact key _ (Or.inl rfl) h
        | exact key _ (Or.inr ⟨rfl, by assumption⟩) h
        | (exfalso; simp_all; done)
theorem mnw_pos {jb f : Nat → Int32} {n k : Nat} (h : sX8_nextWarm jb f n = some k) : ¬ sX8_over f k ≤ 0 := mnw_pos0 n 0 none k (fun _ h => by cases h) h
theorem mnf_pos0 {jb f : Nat → Int32} {n : Nat} : ∀ (d i : Nat) (w : Option Nat) (k : Nat), (∀ k, w = some k → ¬ sX8_of f k 5 < f 14) → lp_X8_nextFrost_4 jb f n d i w = some k → ¬ sX8_of f k 5 < f 14
  | 0, i, w, k, hw, h => by
    cases w with
    | none => cases h
    | some j => cases h; exact hw k rfl
  | d + 1, i, w, k, hw, h => by
    have key : ∀ w', (w' = w ∨ (w' = some i ∧ ¬ sX8_of f i 5 < f 14)) → lp_X8_nextFrost_4 jb f n d (i + 1) w' = some k → ¬ sX8_of f k 5 < f 14 := by
      intro w' h1 h2
      refine mnf_pos0 d (i + 1) w' k ?_ h2
      rcases h1 with rfl | ⟨rfl, h3⟩
      · exact hw
      · intro k2 e; cases e; exact h3
    unfold lp_X8_nextFrost_4 at h
    cases w with
    | none =>
      simp only [oe] at h
      repeat' split at h
      all_goals first
        | exact key _ (Or.inl rfl) h
        | exact key _ (Or.inr ⟨rfl, by assumption⟩) h
        | (exfalso; simp_all; done)
    | some j =>
      simp only [oe] at h
      repeat' split at h
      all_goals first
        | exact key _ (Or.inl rfl) h
        | exact key _ (Or.inr ⟨rfl, by assumption⟩) h
        | (exfalso; simp_all; done)
theorem mnf_pos {jb f : Nat → Int32} {n k : Nat} (h : sX8_nextFrost jb f n = some k) : ¬ sX8_of f k 5 < f 14 := mnf_pos0 n 0 none k (fun _ h => by cases h) h
theorem mnw_none0 {jb f : Nat → Int32} {n : Nat} : ∀ (d i : Nat) (w : Option Nat), i + d = n → lp_X8_nextWarm_4 jb f n d i w = none → w = none ∧ ∀ j, i ≤ j → j < n → jb j = 8 → sX8_over f j ≤ 0
  | 0, i, w, hd, h => by
    cases w with
    | none => exact ⟨rfl, fun j h1 h2 => by omega⟩
    | some j => cases h
  | d + 1, i, w, hd, h => by
    have key : ∀ w', lp_X8_nextWarm_4 jb f n d (i + 1) w' = none → w' = none ∧ ∀ j, i + 1 ≤ j → j < n → jb j = 8 → sX8_over f j ≤ 0 := fun w' h2 => mnw_none0 d (i + 1) w' (by omega) h2
    have fin : (jb i = 8 → sX8_over f i ≤ 0) → (∀ j, i + 1 ≤ j → j < n → jb j = 8 → sX8_over f j ≤ 0) → ∀ j, i ≤ j → j < n → jb j = 8 → sX8_over f j ≤ 0 := by
      intro h1 h2 j hj1 hj2 hj3
      by_cases e : j = i
      · subst e; exact h1 hj3
      · exact h2 j (by omega) hj2 hj3
    unfold lp_X8_nextWarm_4 at h
    cases w with
    | none =>
      simp only [oe] at h
      by_cases c : jb i = 8
      · rw [if_pos c] at h
        by_cases o : sX8_over f i ≤ 0
        · rw [if_pos o] at h
          exact ⟨rfl, fin (fun _ => o) (key _ h).2⟩
        · rw [if_neg o] at h
          exact absurd (key _ h).1 (by simp)
      · rw [if_neg c] at h
        exact ⟨rfl, fin (fun q => absurd q c) (key _ h).2⟩
    | some j0 =>
      exfalso
      simp only [oe] at h
      (repeat' split at h) <;> exact absurd (key _ h).1 (by simp)
theorem mnw_none {jb f : Nat → Int32} {n : Nat} (h : sX8_nextWarm jb f n = none) : ∀ j, j < n → jb j = 8 → sX8_over f j ≤ 0 := fun j hj => (mnw_none0 n 0 none (Nat.zero_add _) h).2 j (Nat.zero_le _) hj
theorem mnf_none0 {jb f : Nat → Int32} {n : Nat} : ∀ (d i : Nat) (w : Option Nat), i + d = n → lp_X8_nextFrost_4 jb f n d i w = none → w = none ∧ ∀ j, i ≤ j → j < n → jb j = 8 → sX8_of f j 5 < f 14
  | 0, i, w, hd, h => by
    cases w with
    | none => exact ⟨rfl, fun j h1 h2 => by omega⟩
    | some j => cases h
  | d + 1, i, w, hd, h => by
    have key : ∀ w', lp_X8_nextFrost_4 jb f n d (i + 1) w' = none → w' = none ∧ ∀ j, i + 1 ≤ j → j < n → jb j = 8 → sX8_of f j 5 < f 14 := fun w' h2 => mnf_none0 d (i + 1) w' (by omega) h2
    have fin : (jb i = 8 → sX8_of f i 5 < f 14) → (∀ j, i + 1 ≤ j → j < n → jb j = 8 → sX8_of f j 5 < f 14) → ∀ j, i ≤ j → j < n → jb j = 8 → sX8_of f j 5 < f 14 := by
      intro h1 h2 j hj1 hj2 hj3
      by_cases e : j = i
      · subst e; exact h1 hj3
      · exact h2 j (by omega) hj2 hj3
    unfold lp_X8_nextFrost_4 at h
    cases w with
    | none =>
      simp only [oe] at h
      by_cases c : jb i = 8
      · rw [if_pos c] at h
        by_cases o : sX8_of f i 5 < f 14
        · rw [if_pos o] at h
          exact ⟨rfl, fin (fun _ => o) (key _ h).2⟩
        · rw [if_neg o] at h
          exact absurd (key _ h).1 (by simp)
      · rw [if_neg c] at h
        exact ⟨rfl, fin (fun q => absurd q c) (key _ h).2⟩
    | some j0 =>
      exfalso
      simp only [oe] at h
      (repeat' split at h) <;> exact absurd (key _ h).1 (by simp)
theorem mnf_none {jb f : Nat → Int32} {n : Nat} (h : sX8_nextFrost jb f n = none) : ∀ j, j < n → jb j = 8 → sX8_of f j 5 < f 14 := fun j hj => (mnf_none0 n 0 none (Nat.zero_add _) h).2 j (Nat.zero_le _) hj
/-- the kilowatts of a room that does x -/
def LDj (f : Nat → Int32) (x : Int32) (j : Nat) : Int32 := if x = 1 ∨ x = 3 then f (16 + 8 * j) else if x = 0 ∨ x = 2 ∨ x = 5 then f 13 else 0
def SU (f jb : Nat → Int32) : Nat → Int
  | 0 => 0
  | n + 1 => SU f jb n + (LDj f (jb n) n).toInt
theorem SU_out {f jb : Nat → Int32} {k : Nat} {x : Int32} : ∀ {n : Nat}, n ≤ k → SU f (upd jb k x) n = SU f jb n
  | 0, _ => rfl
  | n + 1, h => by
    show SU f (upd jb k x) n + (LDj f (upd jb k x n) n).toInt = SU f jb n + (LDj f (jb n) n).toInt
    rw [SU_out (by omega), pk_un (by omega)]
theorem LD8 (f : Nat → Int32) (j : Nat) : (LDj f 8 j).toInt = 0 := rfl
theorem SU_up {f jb : Nat → Int32} {k : Nat} {x : Int32} (h8 : jb k = 8) : ∀ {n : Nat}, k < n → SU f (upd jb k x) n = SU f jb n + (LDj f x k).toInt
  | 0, h => by omega
  | n + 1, h => by
    show SU f (upd jb k x) n + (LDj f (upd jb k x n) n).toInt = SU f jb n + (LDj f (jb n) n).toInt + (LDj f x k).toInt
    by_cases hk : k = n
    · subst hk
      rw [SU_out (Nat.le_refl _), pk_us, h8, LD8]; omega
    · rw [pk_un (fun q => hk q.symm), SU_up h8 (by omega)]; omega
theorem SU_eq {f jb jb' : Nat → Int32} : ∀ {n : Nat}, (∀ j, j < n → (LDj f (jb j) j).toInt = (LDj f (jb' j) j).toInt) → SU f jb n = SU f jb' n
  | 0, _ => rfl
  | n + 1, h => by
    show SU f jb n + _ = SU f jb' n + _
    rw [SU_eq (fun j hj => h j (by omega)), h n (by omega)]
section P70
variable {f : Nat → Int32} {B m : Nat}
theorem fit_i (hB : B ≤ 100000) (ok : OKs B m f) {q : Nat → Int32} {k : Int32} (h0 : 0 ≤ (q 10).toInt) (h1 : (q 10).toInt ≤ 300) (hk0 : 0 ≤ k.toInt) (hk1 : k.toInt ≤ 50) : sX8_fits q f k = 0 ↔ (f 10).toInt < (f 2).toInt + (k.toInt + (q 10).toInt + (f 12).toInt) * (sX8_minutesLeft f).toInt := by
  obtain ⟨ha1, ha2⟩ := ml_b hB ok
  obtain ⟨-, -, h10, -, h12, -, -, -, h1', h2, -⟩ := ok
  have eT2 : (k + q 10).toInt = k.toInt + (q 10).toInt := ia (by omega) (by omega)
  have eT3 : (k + q 10 + f 12).toInt = k.toInt + (q 10).toInt + (f 12).toInt := by rw [ia (by omega) (by omega)]; omega
  generalize hs : k.toInt + (q 10).toInt + (f 12).toInt = S at eT3 ⊢
  have hS0 : 0 ≤ S := by omega
  have hS1 : S ≤ 449 := by omega
  generalize hA : (sX8_minutesLeft f).toInt = a at ha1 ha2 ⊢
  have hp0 : 0 ≤ S * a := Int.mul_nonneg hS0 (by omega)
  have hp1 : S * a ≤ 449 * 15 := Int.mul_le_mul hS1 ha2 (by omega) (by omega)
  have eM : ((k + q 10 + f 12) * sX8_minutesLeft f).toInt = S * a := by
    rw [im_] <;> rw [eT3, hA] <;> omega
  have eR : (f 2 + (k + q 10 + f 12) * sX8_minutesLeft f).toInt = (f 2).toInt + S * a := by
    rw [ia] <;> rw [eM] <;> omega
  unfold sX8_fits
  by_cases h : f 10 < f 2 + (k + q 10 + f 12) * sX8_minutesLeft f
  · rw [if_pos h]
    rw [lt_i, eR] at h
    exact ⟨fun _ => h, fun _ => rfl⟩
  · rw [if_neg h]
    rw [lt_i, eR] at h
    exact ⟨fun q => absurd q (by decide), fun q => absurd q h⟩
/-- what holds of the plan on the way: each room that must has its answer, the others wait for one -/
def PJ1 (f : Nat → Int32) (x : Int32) (j : Nat) : Prop := (mst f j ≠ 8 → x = mst f j) ∧ (mst f j = 8 → x = 8 ∨ ((x = 3 ∨ x = 4) ∧ ¬ sX8_over f j ≤ 0) ∨ ((x = 5 ∨ x = 6) ∧ sX8_over f j ≤ 0 ∧ ¬ sX8_of f j 5 < f 14))
def FITS (f : Nat → Int32) (T : Int) : Prop := (f 2).toInt + (T + (f 12).toInt) * (sX8_minutesLeft f).toInt ≤ (f 10).toInt
def PI1 (f : Nat → Int32) (m : Nat) (q jb : Nat → Int32) : Prop := (∀ j, j < m → PJ1 f (jb j) j) ∧ (q 10).toInt = SU f jb m ∧ 0 ≤ (q 10).toInt ∧ (q 10).toInt + 50 * (oc jb m : Int) ≤ 50 * (m : Int) ∧ ((∃ j, j < m ∧ (jb j = 3 ∨ jb j = 5)) → FITS f (q 10).toInt)
theorem oc_pos' {jb : Nat → Int32} {k : Nat} : ∀ {n : Nat}, k < n → jb k = 8 → 1 ≤ oc jb n
  | 0, h, _ => by omega
  | n + 1, h, h8 => by
    show 1 ≤ oc jb n + (if jb n = 8 then 1 else 0)
    by_cases hk : k = n
    · subst hk; rw [if_pos h8]; omega
    · have := oc_pos' (n := n) (by omega) h8
      omega
/-- one answer more -/
theorem PI1.up (hB : B ≤ 100000) (ok : OKs B m f) {q jb : Nat → Int32} (h : PI1 f m q jb) {k : Nat} (hk : k < m) (h8 : jb k = 8) {L a b : Int32} (hL0 : 0 ≤ L.toInt) (hL1 : L.toInt ≤ 50) (hLa : LDj f a k = L) (hLb : LDj f b k = 0) (ha : ¬ a = 8) (hb : ¬ b = 8) (hb3 : ¬ b = 3) (hb5 : ¬ b = 5) (pa : mst f k = 8 → PJ1 f a k) (pb : mst f k = 8 → PJ1 f b k) :
    PI1 f m (upd q 10 (q 10 + (if sX8_fits q f L = 0 then 0 else L))) (upd jb k (if sX8_fits q f L = 0 then b else a)) := by
  obtain ⟨i1, i2, i3, i4, i5⟩ := h
  have hm := ok.1
  have h8m : mst f k = 8 := by
    by_cases z : mst f k = 8
    · exact z
    · exact absurd (((i1 k hk).1 z).symm.trans h8) z
  have ho := oc_pos' hk h8
  have hf := fit_i hB ok (q := q) (k := L) i3 (by omega) hL0 hL1
  have hx : ¬ (if sX8_fits q f L = 0 then b else a) = 8 := by split <;> assumption
  have hod := oc_dec (x := (if sX8_fits q f L = 0 then b else a)) hk h8 hx
  have hsu := SU_up (f := f) (x := (if sX8_fits q f L = 0 then b else a)) h8 hk
  have e0 : (0 : Int32).toInt = 0 := rfl
  have eT : (q 10 + (if sX8_fits q f L = 0 then 0 else L)).toInt = (q 10).toInt + (LDj f (if sX8_fits q f L = 0 then b else a) k).toInt := by
    by_cases c : sX8_fits q f L = 0
    · rw [if_pos c, if_pos c, hLb, ia (by omega) (by omega)]
    · rw [if_neg c, if_neg c, hLa, ia (by omega) (by omega)]
  have hb9 : 0 ≤ (LDj f (if sX8_fits q f L = 0 then b else a) k).toInt ∧ (LDj f (if sX8_fits q f L = 0 then b else a) k).toInt ≤ 50 := by
    by_cases c : sX8_fits q f L = 0
    · rw [if_pos c, hLb, e0]; omega
    · rw [if_neg c, hLa]; omega
  refine ⟨fun j hj => ?_, ?_, ?_, ?_, fun hex => ?_⟩
  · by_cases hjk : j = k
    · subst hjk
      rw [pk_us]
      split
      · exact pb h8m
      · exact pa h8m
    · rw [pk_un hjk]; exact i1 j hj
  · rw [pk_us, eT, hsu, i2]
  · rw [pk_us, eT]; omega
  · rw [pk_us, eT]; omega
  · rw [pk_us, eT]
    by_cases c : sX8_fits q f L = 0
    · rw [if_pos c, hLb, e0, Int.add_zero]
      refine i5 ?_
      obtain ⟨j, hj, hj2⟩ := hex
      by_cases hjk : j = k
      · subst hjk
        rw [pk_us, if_pos c] at hj2
        rcases hj2 with z | z
        · exact absurd z hb3
        · exact absurd z hb5
      · rw [pk_un hjk] at hj2
        exact ⟨j, hj, hj2⟩
    · rw [if_neg c, hLa]
      have h9 : ¬ ((f 10).toInt < (f 2).toInt + (L.toInt + (q 10).toInt + (f 12).toInt) * (sX8_minutesLeft f).toInt) := fun z => c (hf.mpr z)
      unfold FITS
      rw [Int.add_comm (q 10).toInt L.toInt]
      omega
end P70
