
def sX8_in (v : Int64) (lo : Int64) (hi : Int64) : Int32 :=
  (if (lg_cmp v lo) < 0 then 0 else (if 0 < (lg_cmp v hi) then 0 else 1))
theorem in_zb (v lo hi : Int64) : zb (sX8_in v lo hi) := by
  unfold sX8_in
  exact zb_if zb_0 (zb_if zb_0 zb_1)
theorem fle {x : Int32} {n i : Nat} (e : x = nI n) (h : n ≤ i) (hi : i < 2 ^ 31) : x ≤ nI i := by rw [e]; exact nI_le h hi
theorem fgt {x : Int32} {n i : Nat} (e : x = nI n) (h : i < n) (hn : n < 2 ^ 31) : ¬ x ≤ nI i := by rw [e]; exact nI_ge h hn
def lp_X8_copyState_3 (p0 : Nat) (q0 : Nat) (f : Nat → Int32) (f2 : Nat → Int32) : Nat → Nat → (Nat → Int32) → (Nat → Int32)
  | 0, i, f3 => f3
  | d + 1, i, f3 => (lp_X8_copyState_3 p0 q0 f f2 d (i + 1) (upd f3 (q0 + i) (f (p0 + i))))
def sX8_copyState (p0 : Nat) (q0 : Nat) (f : Nat → Int32) (f2 : Nat → Int32) : (Nat → Int32) :=
  (lp_X8_copyState_3 p0 q0 f f2 64 0 f2)
def lp_X8_clear_2 (f : Nat → Int32) : Nat → Nat → (Nat → Int32) → (Nat → Int32)
  | 0, i, f1 => (upd (upd (upd (upd (upd f1 10 600) 12 10) 13 12) 14 30) 15 6)
  | d + 1, i, f1 => (lp_X8_clear_2 f d (i + 1) (upd f1 i 0))
def sX8_clear (f : Nat → Int32) : (Nat → Int32) :=
  (lp_X8_clear_2 f 64 0 f)
def sX8_isRoom (f : Nat → Int32) (i : Int32) : Int32 :=
  (sX8_in (i.toInt64) 0 (((f 0) - 1).toInt64))
def sX8_of (f : Nat → Int32) (i : Nat) (w : Nat) : Int32 :=
  (f ((16 + (8 * i)) + w))
def sX8_lay (f : Nat → Int32) (i : Nat) (w : Nat) (v : Int32) : (Nat → Int32) :=
  (upd f ((16 + (8 * i)) + w) v)
def sX8_isWarm (f : Nat → Int32) (i : Nat) : Int32 :=
  (if (sX8_of f i 3) < (sX8_of f i 2) then 0 else 1)
def sX8_over (f : Nat → Int32) (i : Nat) : Int32 :=
  ((sX8_of f i 3) - (sX8_of f i 1))
def sX8_minutesLeft (f : Nat → Int32) : Int32 :=
  (15 - (((f 1) + (f 11)) - ((f 1) + (f 11)) / 15 * 15))
def sX8_fits (q : Nat → Int32) (f : Nat → Int32) (k : Int32) : Int32 :=
  (if (f 10) < ((f 2) + (((k + (q 10)) + (f 12)) * (sX8_minutesLeft f))) then 0 else 1)
def sX8_measure_j87 (f : Nat → Int32) (k : Int32) (x_1 : Int32) (x_2 : Int32) (x_3 : Int32) : (Nat → Int32) :=
  (upd (upd (upd (upd (upd (upd f 2 ((f 2) + (k + (f 12)))) 5 ((f 5) + (k + (f 12)))) 1 ((f 1) + 1)) 3 ((f 3) + x_2)) 4 x_3) 2 0)
def sX8_measure_j65 (f : Nat → Int32) (k : Int32) (x_1 : Int32) (x_2 : Int32) : (Nat → Int32) :=
  (sX8_measure_j87 f k x_1 x_2 (if ((f 2) + (k + (f 12))) ≤ (f 4) then (f 4) else ((f 2) + (k + (f 12)))))
def sX8_measure_j20 (f : Nat → Int32) (k : Int32) (x_1 : Int32) : (Nat → Int32) :=
  (if x_1 = 0 then (upd (upd (upd f 2 ((f 2) + (k + (f 12)))) 5 ((f 5) + (k + (f 12)))) 1 ((f 1) + 1)) else (sX8_measure_j65 f k x_1 (if ((f 2) + (k + (f 12))) ≤ (f 10) then 0 else 1)))
def sX8_measure (f : Nat → Int32) (k : Int32) : (Nat → Int32) :=
  (sX8_measure_j20 f k (if (sX8_minutesLeft f) = 1 then 1 else 0))
def sX8_clamp (v : Int32) (lo : Int32) (hi : Int32) : Int32 :=
  (if lo ≤ v then (if v ≤ hi then v else hi) else lo)
def lp_X8_must_2 (q : Nat → Int32) (jb : Nat → Int32) (f : Nat → Int32) (n : Nat) : Nat → Nat → (Nat → Int32) → (Nat → Int32) → (Nat → Int32) × (Nat → Int32)
  | 0, i, q1, jb1 => (q1, jb1)
  | d + 1, i, q1, jb1 => ((fun (x_1 : Int32) => ((fun (x_2 : Int32) => ((fun (x_3 : Int32) => (lp_X8_must_2 q jb f n d (i + 1) (upd q1 10 ((q1 10) + x_3)) (upd jb1 i x_2))) (if ((upd jb1 i x_2) i) = 8 then 0 else (if ((upd jb1 i x_2) i) = 1 then (sX8_of f i 0) else (f 13))))) (if x_1 = 0 then (if (sX8_isWarm f i) = 0 then (if (sX8_of f i 5) = 100 then 2 else 8) else 1) else 0))) (if (sX8_of f i 6) ≤ 0 then 0 else 1))
def sX8_must (q : Nat → Int32) (jb : Nat → Int32) (f : Nat → Int32) (n : Nat) : (Nat → Int32) × (Nat → Int32) :=
  (lp_X8_must_2 q jb f n n 0 q jb)
def lp_X8_nextWarm_4 (jb : Nat → Int32) (f : Nat → Int32) (n : Nat) : Nat → Nat → Option Nat → Option Nat
  | 0, i, w => (oe w none (fun k_1 => (some k_1)))
  | d + 1, i, w => (if (jb i) = 8 then (if (sX8_over f i) ≤ 0 then (oe w (lp_X8_nextWarm_4 jb f n d (i + 1) none) (fun k_3 => (lp_X8_nextWarm_4 jb f n d (i + 1) (some k_3)))) else (oe w (lp_X8_nextWarm_4 jb f n d (i + 1) (some i)) (fun k_4 => (if (sX8_over f i) ≤ (sX8_over f k_4) then (lp_X8_nextWarm_4 jb f n d (i + 1) (some k_4)) else (lp_X8_nextWarm_4 jb f n d (i + 1) (some i)))))) else (oe w (lp_X8_nextWarm_4 jb f n d (i + 1) none) (fun k_2 => (lp_X8_nextWarm_4 jb f n d (i + 1) (some k_2)))))
def sX8_nextWarm (jb : Nat → Int32) (f : Nat → Int32) (n : Nat) : Option Nat :=
  (lp_X8_nextWarm_4 jb f n n 0 none)
def lp_X8_nextFrost_4 (jb : Nat → Int32) (f : Nat → Int32) (n : Nat) : Nat → Nat → Option Nat → Option Nat
  | 0, i, w => (oe w none (fun k_1 => (some k_1)))
  | d + 1, i, w => (if (jb i) = 8 then (if (sX8_of f i 5) < (f 14) then (oe w (lp_X8_nextFrost_4 jb f n d (i + 1) none) (fun k_3 => (lp_X8_nextFrost_4 jb f n d (i + 1) (some k_3)))) else (oe w (lp_X8_nextFrost_4 jb f n d (i + 1) (some i)) (fun k_4 => (if (sX8_of f i 5) ≤ (sX8_of f k_4 5) then (lp_X8_nextFrost_4 jb f n d (i + 1) (some k_4)) else (lp_X8_nextFrost_4 jb f n d (i + 1) (some i)))))) else (oe w (lp_X8_nextFrost_4 jb f n d (i + 1) none) (fun k_2 => (lp_X8_nextFrost_4 jb f n d (i + 1) (some k_2)))))
def sX8_nextFrost (jb : Nat → Int32) (f : Nat → Int32) (n : Nat) : Option Nat :=
  (lp_X8_nextFrost_4 jb f n n 0 none)

theorem mnw_spec0 {jb f : Nat → Int32} {n : Nat} : ∀ (d i : Nat) (w : Option Nat) (k : Nat), i + d = n → (∀ k, w = some k → k < n ∧ jb k = 8) → lp_X8_nextWarm_4 jb f n d i w = some k → k < n ∧ jb k = 8
  | 0, i, w, k, _, hw, h => by
    cases w with
    | none => cases h
    | some j => cases h; exact hw k rfl
  | d + 1, i, w, k, hd, hw, h => by
    have key : ∀ w', (w' = w ∨ (w' = some i ∧ jb i = 8)) → lp_X8_nextWarm_4 jb f n d (i + 1) w' = some k → k < n ∧ jb k = 8 := by
      intro w' h1 h2
      refine mnw_spec0 d (i + 1) w' k (by omega) ?_ h2
      rcases h1 with rfl | ⟨rfl, h3⟩
      · exact hw
      · intro k2 e; cases e; exact ⟨by omega, h3⟩
    unfold lp_X8_nextWarm_4 at h
    cases w with
    | none =>
      simp only [oe] at h
      repeat' split at h
      all_goals first
        | exact key _ (Or.inl rfl) h
        | exact key _ (Or.inr ⟨rfl, by assumption⟩) h
        | (exfalso; simp_all; done)
    | some j =>
      simp only [oe] at h
      repeat' split at h
      all_goals first
        | exact key _ (Or.inl rfl) h
        | exact key _ (Or.inr ⟨rfl, by assumption⟩) h
        | (exfalso; simp_all; done)
theorem mnw_spec {jb f : Nat → Int32} {n k : Nat} (h : sX8_nextWarm jb f n = some k) : k < n ∧ jb k = 8 := mnw_spec0 n 0 none k (Nat.zero_add _) (fun _ h => by cases h) h
theorem mnf_spec0 {jb f : Nat → Int32} {n : Nat} : ∀ (d i : Nat) (w : Option Nat) (k : Nat), i + d = n → (∀ k, w = some k → k < n ∧ jb k = 8) → lp_X8_nextFrost_4 jb f n d i w = some k → k < n ∧ jb k = 8
  | 0, i, w, k, _, hw, h => by
    cases w with
    | none => cases h
    | some j => cases h; exact hw k rfl
  | d + 1, i, w, k, hd, hw, h => by
    have key : ∀ w', (w' = w ∨ (w' = some i ∧ jb i = 8)) → lp_X8_nextFrost_4 jb f n d (i + 1) w' = some k → k < n ∧ jb k = 8 := by
      intro w' h1 h2
      refine mnf_spec0 d (i + 1) w' k (by omega) ?_ h2
      rcases h1 with rfl | ⟨rfl, h3⟩
      · exact hw
      · intro k2 e; cases e; exact ⟨by omega, h3⟩
    unfold lp_X8_nextFrost_4 at h
    cases w with
    | none =>
      simp only [oe] at h
      repeat' split at h
      all_goals first
        | exact key _ (Or.inl rfl) h
        | exact key _ (Or.inr ⟨rfl, by assumption⟩) h
        | (exfalso; simp_all; done)
    | some j =>
      simp only [oe] at h
      repeat' split at h
      all_goals first
        | exact key _ (Or.inl rfl) h
        | exact key _ (Or.inr ⟨rfl, by assumption⟩) h
        | (exfalso; simp_all; done)
theorem mnf_spec {jb f : Nat → Int32} {n k : Nat} (h : sX8_nextFrost jb f n = some k) : k < n ∧ jb k = 8 := mnf_spec0 n 0 none k (Nat.zero_add _) (fun _ h => by cases h) h
/-- how many jobs are open -/
def oc (jb : Nat → Int32) : Nat → Nat
  | 0 => 0
  | n + 1 => oc jb n + (if jb n = 8 then 1 else 0)
theorem oc_le (jb : Nat → Int32) : ∀ n, oc jb n ≤ n
  | 0 => Nat.le_refl 0
  | n + 1 => by
    have h := oc_le jb n
    show oc jb n + (if jb n = 8 then 1 else 0) ≤ n + 1
    split <;> omega
theorem oc_out {jb : Nat → Int32} {k : Nat} {x : Int32} : ∀ {n : Nat}, n ≤ k → oc (upd jb k x) n = oc jb n
  | 0, _ => rfl
  | n + 1, h => by
    show oc (upd jb k x) n + (if upd jb k x n = 8 then 1 else 0) = oc jb n + (if jb n = 8 then 1 else 0)
    rw [oc_out (by omega), pk_un (by omega)]
theorem oc_dec {jb : Nat → Int32} {k : Nat} {x : Int32} : ∀ {n : Nat}, k < n → jb k = 8 → ¬ x = 8 → oc (upd jb k x) n + 1 = oc jb n
  | 0, h, _, _ => by omega
  | n + 1, h, h8, hx => by
    show oc (upd jb k x) n + (if upd jb k x n = 8 then 1 else 0) + 1 = oc jb n + (if jb n = 8 then 1 else 0)
    by_cases hk : k = n
    · subst hk
      rw [oc_out (Nat.le_refl _), pk_us, if_neg hx, if_pos h8]
    · rw [pk_un (fun q => hk q.symm)]
      have := oc_dec (n := n) (by omega) h8 hx
      omega
theorem oc_step {jb : Nat → Int32} {k n d : Nat} {x : Int32} (h : oc jb n < d + 1) (hk : k < n) (h8 : jb k = 8) (hx : ¬ x = 8) : oc (upd jb k x) n < d := by
  have := oc_dec hk h8 hx
  omega
theorem oc_7 {jb : Nat → Int32} {n : Nat} (h : n ≤ 6) : oc jb n < 7 := Nat.lt_of_le_of_lt (oc_le jb n) (by omega)
def lp_X8_find_149 (q : Nat → Int32) (jb : Nat → Int32) (f : Nat → Int32) (n : Nat) (z_1 : (Nat → Int32) × (Nat → Int32)) (q2 : Nat → Int32) (jb2 : Nat → Int32) (q3 : Nat → Int32) (jb3 : Nat → Int32) : Nat → Nat → (Nat → Int32) → (Nat → Int32) × (Nat → Int32)
  | 0, i, jb1 => (q3, jb1)
  | d + 1, i, jb1 => ((fun (x_2 : Int32) => (lp_X8_find_149 q jb f n z_1 q2 jb2 q3 jb3 d (i + 1) (upd jb1 i x_2))) (if (jb1 i) = 8 then 7 else (jb1 i)))
def sX8_find_x147 (q : Nat → Int32) (jb : Nat → Int32) (f : Nat → Int32) (n : Nat) (z_1 : (Nat → Int32) × (Nat → Int32)) (q2 : Nat → Int32) (jb2 : Nat → Int32) (q3 : Nat → Int32) (jb3 : Nat → Int32) : (Nat → Int32) × (Nat → Int32) :=
  (lp_X8_find_149 q jb f n z_1 q2 jb2 q3 jb3 n 0 jb3)
def lp_X8_find_86 (q : Nat → Int32) (jb : Nat → Int32) (f : Nat → Int32) (n : Nat) (z_1 : (Nat → Int32) × (Nat → Int32)) (q2 : Nat → Int32) (jb2 : Nat → Int32) : Nat → Option Nat → (Nat → Int32) → (Nat → Int32) → (Nat → Int32) × (Nat → Int32)
  | 0, w, q1, jb1 => (q1, jb1)
  | d + 1, w, q1, jb1 => (oe w (sX8_find_x147 q jb f n z_1 q2 jb2 q1 jb1) (fun k_3 => ((fun (x_4 : Int32) => ((fun (x_5 : Int32) => (lp_X8_find_86 q jb f n z_1 q2 jb2 d (sX8_nextFrost (upd jb1 k_3 x_4) f n) (upd q1 10 ((q1 10) + x_5)) (upd jb1 k_3 x_4))) (if (sX8_fits q1 f (f 13)) = 0 then 0 else (f 13)))) (if (sX8_fits q1 f (f 13)) = 0 then 6 else 5))))
def sX8_find_x80 (q : Nat → Int32) (jb : Nat → Int32) (f : Nat → Int32) (n : Nat) (z_1 : (Nat → Int32) × (Nat → Int32)) (q2 : Nat → Int32) (jb2 : Nat → Int32) : (Nat → Int32) × (Nat → Int32) :=
  (lp_X8_find_86 q jb f n z_1 q2 jb2 7 (sX8_nextFrost jb2 f n) q2 jb2)
def lp_X8_find_16 (q : Nat → Int32) (jb : Nat → Int32) (f : Nat → Int32) (n : Nat) (z_1 : (Nat → Int32) × (Nat → Int32)) : Nat → Option Nat → (Nat → Int32) → (Nat → Int32) → (Nat → Int32) × (Nat → Int32)
  | 0, w, q1, jb1 => (q1, jb1)
  | d + 1, w, q1, jb1 => (oe w (sX8_find_x80 q jb f n z_1 q1 jb1) (fun k_6 => ((fun (x_7 : Int32) => ((fun (x_8 : Int32) => (lp_X8_find_16 q jb f n z_1 d (sX8_nextWarm (upd jb1 k_6 x_7) f n) (upd q1 10 ((q1 10) + x_8)) (upd jb1 k_6 x_7))) (if (sX8_fits q1 f (sX8_of f k_6 0)) = 0 then 0 else (sX8_of f k_6 0)))) (if (sX8_fits q1 f (sX8_of f k_6 0)) = 0 then 4 else 3))))
def sX8_find_z_1 (q : Nat → Int32) (jb : Nat → Int32) (f : Nat → Int32) (n : Nat) (z_1 : (Nat → Int32) × (Nat → Int32)) : (Nat → Int32) × (Nat → Int32) :=
  (lp_X8_find_16 q jb f n z_1 7 (sX8_nextWarm z_1.2 f n) z_1.1 z_1.2)
def sX8_find (q : Nat → Int32) (jb : Nat → Int32) (f : Nat → Int32) (n : Nat) : (Nat → Int32) × (Nat → Int32) :=
  (sX8_find_z_1 q jb f n (sX8_must (upd q 10 0) jb f n))

def sX8_roomOn_j356 (jb : Nat → Int32) (f : Nat → Int32) (i : Nat) (x_1 : Int32) (x_2 : Int32) (x_3 : Int32) (x_4 : Int32) (x_5 : Int32) (x_6 : Int32) (z_7 : (Nat → Int32)) (x_9 : Int32) (x_10 : Int32) (z_11 : (Nat → Int32)) (x_12 : Int32) (z_13 : (Nat → Int32)) (x_14 : Int32) (x_15 : Int32) (x_16 : Int32) : (Nat → Int32) :=
  (if (sX8_isWarm (upd (upd (upd z_13 6 ((z_13 6) + x_14)) 7 ((z_13 7) + x_15)) 8 ((z_13 8) + x_16)) i) = 0 then (upd (upd (upd (upd z_13 6 ((z_13 6) + x_14)) 7 ((z_13 7) + x_15)) 8 ((z_13 8) + x_16)) 9 ((z_13 9) + 0)) else (upd (upd (upd (upd z_13 6 ((z_13 6) + x_14)) 7 ((z_13 7) + x_15)) 8 ((z_13 8) + x_16)) 9 ((z_13 9) + 1)))
def sX8_roomOn_j333 (jb : Nat → Int32) (f : Nat → Int32) (i : Nat) (x_1 : Int32) (x_2 : Int32) (x_3 : Int32) (x_4 : Int32) (x_5 : Int32) (x_6 : Int32) (z_7 : (Nat → Int32)) (x_9 : Int32) (x_10 : Int32) (z_11 : (Nat → Int32)) (x_12 : Int32) (z_13 : (Nat → Int32)) (x_14 : Int32) (x_15 : Int32) : (Nat → Int32) :=
  (sX8_roomOn_j356 jb f i x_1 x_2 x_3 x_4 x_5 x_6 z_7 x_9 x_10 z_11 x_12 z_13 x_14 x_15 (if (jb i) = 6 then 1 else 0))
def sX8_roomOn_j311 (jb : Nat → Int32) (f : Nat → Int32) (i : Nat) (x_1 : Int32) (x_2 : Int32) (x_3 : Int32) (x_4 : Int32) (x_5 : Int32) (x_6 : Int32) (z_7 : (Nat → Int32)) (x_9 : Int32) (x_10 : Int32) (z_11 : (Nat → Int32)) (x_12 : Int32) (z_13 : (Nat → Int32)) (x_14 : Int32) : (Nat → Int32) :=
  (sX8_roomOn_j333 jb f i x_1 x_2 x_3 x_4 x_5 x_6 z_7 x_9 x_10 z_11 x_12 z_13 x_14 (if (jb i) = 4 then 1 else 0))
def sX8_roomOn_z_13 (jb : Nat → Int32) (f : Nat → Int32) (i : Nat) (x_1 : Int32) (x_2 : Int32) (x_3 : Int32) (x_4 : Int32) (x_5 : Int32) (x_6 : Int32) (z_7 : (Nat → Int32)) (x_9 : Int32) (x_10 : Int32) (z_11 : (Nat → Int32)) (x_12 : Int32) (z_13 : (Nat → Int32)) : (Nat → Int32) :=
  (sX8_roomOn_j311 jb f i x_1 x_2 x_3 x_4 x_5 x_6 z_7 x_9 x_10 z_11 x_12 z_13 (if x_3 = 0 then 0 else 1))
def sX8_roomOn_j292 (jb : Nat → Int32) (f : Nat → Int32) (i : Nat) (x_1 : Int32) (x_2 : Int32) (x_3 : Int32) (x_4 : Int32) (x_5 : Int32) (x_6 : Int32) (z_7 : (Nat → Int32)) (x_9 : Int32) (x_10 : Int32) (z_11 : (Nat → Int32)) (x_12 : Int32) : (Nat → Int32) :=
  (sX8_roomOn_z_13 jb f i x_1 x_2 x_3 x_4 x_5 x_6 z_7 x_9 x_10 z_11 x_12 (sX8_lay z_11 i 7 ((sX8_of z_11 i 7) + x_12)))
def sX8_roomOn_z_11 (jb : Nat → Int32) (f : Nat → Int32) (i : Nat) (x_1 : Int32) (x_2 : Int32) (x_3 : Int32) (x_4 : Int32) (x_5 : Int32) (x_6 : Int32) (z_7 : (Nat → Int32)) (x_9 : Int32) (x_10 : Int32) (z_11 : (Nat → Int32)) : (Nat → Int32) :=
  (sX8_roomOn_j292 jb f i x_1 x_2 x_3 x_4 x_5 x_6 z_7 x_9 x_10 z_11 (if x_2 = 0 then 0 else 1))
def sX8_roomOn_j261 (jb : Nat → Int32) (f : Nat → Int32) (i : Nat) (x_1 : Int32) (x_2 : Int32) (x_3 : Int32) (x_4 : Int32) (x_5 : Int32) (x_6 : Int32) (z_7 : (Nat → Int32)) (x_9 : Int32) (x_10 : Int32) : (Nat → Int32) :=
  (sX8_roomOn_z_11 jb f i x_1 x_2 x_3 x_4 x_5 x_6 z_7 x_9 x_10 (sX8_lay z_7 i 5 (sX8_clamp (((sX8_of z_7 i 5) + x_9) + x_10) 0 100)))
def sX8_roomOn_j251 (jb : Nat → Int32) (f : Nat → Int32) (i : Nat) (x_1 : Int32) (x_2 : Int32) (x_3 : Int32) (x_4 : Int32) (x_5 : Int32) (x_6 : Int32) (z_7 : (Nat → Int32)) (x_9 : Int32) : (Nat → Int32) :=
  (sX8_roomOn_j261 jb f i x_1 x_2 x_3 x_4 x_5 x_6 z_7 x_9 (if x_1 = 0 then 0 else 2))
def sX8_roomOn_j356' (jb : Nat → Int32) (f : Nat → Int32) (i : Nat) (x_1 : Int32) (x_2 : Int32) (x_3 : Int32) (x_4 : Int32) (x_5 : Int32) (x_6 : Int32) (z_7 : (Nat → Int32)) (x_17 : Int32) (z_18 : (Nat → Int32)) (x_19 : Int32) (z_20 : (Nat → Int32)) (x_21 : Int32) (z_22 : (Nat → Int32)) (x_23 : Int32) (x_24 : Int32) (x_25 : Int32) : (Nat → Int32) :=
  (if (sX8_isWarm (upd (upd (upd z_22 6 ((z_22 6) + x_23)) 7 ((z_22 7) + x_24)) 8 ((z_22 8) + x_25)) i) = 0 then (upd (upd (upd (upd z_22 6 ((z_22 6) + x_23)) 7 ((z_22 7) + x_24)) 8 ((z_22 8) + x_25)) 9 ((z_22 9) + 0)) else (upd (upd (upd (upd z_22 6 ((z_22 6) + x_23)) 7 ((z_22 7) + x_24)) 8 ((z_22 8) + x_25)) 9 ((z_22 9) + 1)))
def sX8_roomOn_j333' (jb : Nat → Int32) (f : Nat → Int32) (i : Nat) (x_1 : Int32) (x_2 : Int32) (x_3 : Int32) (x_4 : Int32) (x_5 : Int32) (x_6 : Int32) (z_7 : (Nat → Int32)) (x_17 : Int32) (z_18 : (Nat → Int32)) (x_19 : Int32) (z_20 : (Nat → Int32)) (x_21 : Int32) (z_22 : (Nat → Int32)) (x_23 : Int32) (x_24 : Int32) : (Nat → Int32) :=
  (sX8_roomOn_j356' jb f i x_1 x_2 x_3 x_4 x_5 x_6 z_7 x_17 z_18 x_19 z_20 x_21 z_22 x_23 x_24 (if (jb i) = 6 then 1 else 0))
def sX8_roomOn_j311' (jb : Nat → Int32) (f : Nat → Int32) (i : Nat) (x_1 : Int32) (x_2 : Int32) (x_3 : Int32) (x_4 : Int32) (x_5 : Int32) (x_6 : Int32) (z_7 : (Nat → Int32)) (x_17 : Int32) (z_18 : (Nat → Int32)) (x_19 : Int32) (z_20 : (Nat → Int32)) (x_21 : Int32) (z_22 : (Nat → Int32)) (x_23 : Int32) : (Nat → Int32) :=
  (sX8_roomOn_j333' jb f i x_1 x_2 x_3 x_4 x_5 x_6 z_7 x_17 z_18 x_19 z_20 x_21 z_22 x_23 (if (jb i) = 4 then 1 else 0))
def sX8_roomOn_z_22 (jb : Nat → Int32) (f : Nat → Int32) (i : Nat) (x_1 : Int32) (x_2 : Int32) (x_3 : Int32) (x_4 : Int32) (x_5 : Int32) (x_6 : Int32) (z_7 : (Nat → Int32)) (x_17 : Int32) (z_18 : (Nat → Int32)) (x_19 : Int32) (z_20 : (Nat → Int32)) (x_21 : Int32) (z_22 : (Nat → Int32)) : (Nat → Int32) :=
  (sX8_roomOn_j311' jb f i x_1 x_2 x_3 x_4 x_5 x_6 z_7 x_17 z_18 x_19 z_20 x_21 z_22 (if x_3 = 0 then 0 else 1))
def sX8_roomOn_j292' (jb : Nat → Int32) (f : Nat → Int32) (i : Nat) (x_1 : Int32) (x_2 : Int32) (x_3 : Int32) (x_4 : Int32) (x_5 : Int32) (x_6 : Int32) (z_7 : (Nat → Int32)) (x_17 : Int32) (z_18 : (Nat → Int32)) (x_19 : Int32) (z_20 : (Nat → Int32)) (x_21 : Int32) : (Nat → Int32) :=
  (sX8_roomOn_z_22 jb f i x_1 x_2 x_3 x_4 x_5 x_6 z_7 x_17 z_18 x_19 z_20 x_21 (sX8_lay z_20 i 7 ((sX8_of z_20 i 7) + x_21)))
def sX8_roomOn_z_20 (jb : Nat → Int32) (f : Nat → Int32) (i : Nat) (x_1 : Int32) (x_2 : Int32) (x_3 : Int32) (x_4 : Int32) (x_5 : Int32) (x_6 : Int32) (z_7 : (Nat → Int32)) (x_17 : Int32) (z_18 : (Nat → Int32)) (x_19 : Int32) (z_20 : (Nat → Int32)) : (Nat → Int32) :=
  (sX8_roomOn_j292' jb f i x_1 x_2 x_3 x_4 x_5 x_6 z_7 x_17 z_18 x_19 z_20 (if x_2 = 0 then 0 else 1))
def sX8_roomOn_j226 (jb : Nat → Int32) (f : Nat → Int32) (i : Nat) (x_1 : Int32) (x_2 : Int32) (x_3 : Int32) (x_4 : Int32) (x_5 : Int32) (x_6 : Int32) (z_7 : (Nat → Int32)) (x_17 : Int32) (z_18 : (Nat → Int32)) (x_19 : Int32) : (Nat → Int32) :=
  (sX8_roomOn_z_20 jb f i x_1 x_2 x_3 x_4 x_5 x_6 z_7 x_17 z_18 x_19 (sX8_lay z_18 i 6 x_19))
def sX8_roomOn_z_18 (jb : Nat → Int32) (f : Nat → Int32) (i : Nat) (x_1 : Int32) (x_2 : Int32) (x_3 : Int32) (x_4 : Int32) (x_5 : Int32) (x_6 : Int32) (z_7 : (Nat → Int32)) (x_17 : Int32) (z_18 : (Nat → Int32)) : (Nat → Int32) :=
  (sX8_roomOn_j226 jb f i x_1 x_2 x_3 x_4 x_5 x_6 z_7 x_17 z_18 (if (sX8_of z_18 i 5) = 0 then 0 else (x_17 - 1)))
def sX8_roomOn_j182 (jb : Nat → Int32) (f : Nat → Int32) (i : Nat) (x_1 : Int32) (x_2 : Int32) (x_3 : Int32) (x_4 : Int32) (x_5 : Int32) (x_6 : Int32) (z_7 : (Nat → Int32)) (x_17 : Int32) : (Nat → Int32) :=
  (sX8_roomOn_z_18 jb f i x_1 x_2 x_3 x_4 x_5 x_6 z_7 x_17 (sX8_lay z_7 i 5 (sX8_clamp ((sX8_of z_7 i 5) - 10) 0 100)))
def sX8_roomOn_z_7 (jb : Nat → Int32) (f : Nat → Int32) (i : Nat) (x_1 : Int32) (x_2 : Int32) (x_3 : Int32) (x_4 : Int32) (x_5 : Int32) (x_6 : Int32) (z_7 : (Nat → Int32)) : (Nat → Int32) :=
  (if x_4 = 0 then (sX8_roomOn_j251 jb f i x_1 x_2 x_3 x_4 x_5 x_6 z_7 (if x_2 = 0 then 0 else 1)) else (sX8_roomOn_j182 jb f i x_1 x_2 x_3 x_4 x_5 x_6 z_7 (if x_3 = 0 then (sX8_of z_7 i 6) else (z_7 15))))
def sX8_roomOn_j145 (jb : Nat → Int32) (f : Nat → Int32) (i : Nat) (x_1 : Int32) (x_2 : Int32) (x_3 : Int32) (x_4 : Int32) (x_5 : Int32) (x_6 : Int32) : (Nat → Int32) :=
  (sX8_roomOn_z_7 jb f i x_1 x_2 x_3 x_4 x_5 x_6 (sX8_lay f i 3 (sX8_clamp (((sX8_of f i 3) + x_5) + x_6) (-400) 400)))
def sX8_roomOn_j122 (jb : Nat → Int32) (f : Nat → Int32) (i : Nat) (x_1 : Int32) (x_2 : Int32) (x_3 : Int32) (x_4 : Int32) (x_5 : Int32) : (Nat → Int32) :=
  (sX8_roomOn_j145 jb f i x_1 x_2 x_3 x_4 x_5 (if x_1 = 0 then 0 else 4))
def sX8_roomOn_j89 (jb : Nat → Int32) (f : Nat → Int32) (i : Nat) (x_1 : Int32) (x_2 : Int32) (x_3 : Int32) (x_4 : Int32) : (Nat → Int32) :=
  (sX8_roomOn_j122 jb f i x_1 x_2 x_3 x_4 (if x_2 = 0 then (if x_4 = 0 then 1 else 6) else (((sX8_of f i 5) / 20) - 8)))
def sX8_roomOn_j68 (jb : Nat → Int32) (f : Nat → Int32) (i : Nat) (x_1 : Int32) (x_2 : Int32) (x_3 : Int32) : (Nat → Int32) :=
  (sX8_roomOn_j89 jb f i x_1 x_2 x_3 (if x_3 = 0 then (if (jb i) = 0 then 1 else 0) else 1))
def sX8_roomOn_j41 (jb : Nat → Int32) (f : Nat → Int32) (i : Nat) (x_1 : Int32) (x_2 : Int32) : (Nat → Int32) :=
  (sX8_roomOn_j68 jb f i x_1 x_2 (if (jb i) = 5 then 1 else (if (jb i) = 2 then 1 else 0)))
def sX8_roomOn_j15 (jb : Nat → Int32) (f : Nat → Int32) (i : Nat) (x_1 : Int32) : (Nat → Int32) :=
  (sX8_roomOn_j41 jb f i x_1 (if (jb i) = 3 then 1 else (if (jb i) = 1 then 1 else 0)))
def sX8_roomOn (jb : Nat → Int32) (f : Nat → Int32) (i : Nat) : (Nat → Int32) :=
  (sX8_roomOn_j15 jb f i (if (sX8_of f i 4) = 1 then 1 else 0))

theorem lay_0 {f : Nat → Int32} {i w : Nat} {v : Int32} : sX8_lay f i w v 0 = f 0 := pk_un (by omega)
theorem ro0_roomOn_j356 (jb : Nat → Int32) (f : Nat → Int32) (i : Nat) (x_1 : Int32) (x_2 : Int32) (x_3 : Int32) (x_4 : Int32) (x_5 : Int32) (x_6 : Int32) (z_7 : (Nat → Int32)) (x_9 : Int32) (x_10 : Int32) (z_11 : (Nat → Int32)) (x_12 : Int32) (z_13 : (Nat → Int32)) (x_14 : Int32) (x_15 : Int32) (x_16 : Int32)  : sX8_roomOn_j356 jb f i x_1 x_2 x_3 x_4 x_5 x_6 z_7 x_9 x_10 z_11 x_12 z_13 x_14 x_15 x_16 0 = z_13 0 := by
  unfold sX8_roomOn_j356
  (repeat' split) <;> simp [upd, lay_0]
theorem ro0_roomOn_j333 (jb : Nat → Int32) (f : Nat → Int32) (i : Nat) (x_1 : Int32) (x_2 : Int32) (x_3 : Int32) (x_4 : Int32) (x_5 : Int32) (x_6 : Int32) (z_7 : (Nat → Int32)) (x_9 : Int32) (x_10 : Int32) (z_11 : (Nat → Int32)) (x_12 : Int32) (z_13 : (Nat → Int32)) (x_14 : Int32) (x_15 : Int32)  : sX8_roomOn_j333 jb f i x_1 x_2 x_3 x_4 x_5 x_6 z_7 x_9 x_10 z_11 x_12 z_13 x_14 x_15 0 = z_13 0 := by
  unfold sX8_roomOn_j333
  (repeat' split) <;> simp [upd, lay_0, ro0_roomOn_j356]
theorem ro0_roomOn_j311 (jb : Nat → Int32) (f : Nat → Int32) (i : Nat) (x_1 : Int32) (x_2 : Int32) (x_3 : Int32) (x_4 : Int32) (x_5 : Int32) (x_6 : Int32) (z_7 : (Nat → Int32)) (x_9 : Int32) (x_10 : Int32) (z_11 : (Nat → Int32)) (x_12 : Int32) (z_13 : (Nat → Int32)) (x_14 : Int32)  : sX8_roomOn_j311 jb f i x_1 x_2 x_3 x_4 x_5 x_6 z_7 x_9 x_10 z_11 x_12 z_13 x_14 0 = z_13 0 := by
  unfold sX8_roomOn_j311
  (repeat' split) <;> simp [upd, lay_0, ro0_roomOn_j356, ro0_roomOn_j333]
theorem ro0_roomOn_z_13 (jb : Nat → Int32) (f : Nat → Int32) (i : Nat) (x_1 : Int32) (x_2 : Int32) (x_3 : Int32) (x_4 : Int32) (x_5 : Int32) (x_6 : Int32) (z_7 : (Nat → Int32)) (x_9 : Int32) (x_10 : Int32) (z_11 : (Nat → Int32)) (x_12 : Int32) (z_13 : (Nat → Int32))  : sX8_roomOn_z_13 jb f i x_1 x_2 x_3 x_4 x_5 x_6 z_7 x_9 x_10 z_11 x_12 z_13 0 = z_13 0 := by
  unfold sX8_roomOn_z_13
  (repeat' split) <;> simp [upd, lay_0, ro0_roomOn_j356, ro0_roomOn_j333, ro0_roomOn_j311]
theorem ro0_roomOn_j292 (jb : Nat → Int32) (f : Nat → Int32) (i : Nat) (x_1 : Int32) (x_2 : Int32) (x_3 : Int32) (x_4 : Int32) (x_5 : Int32) (x_6 : Int32) (z_7 : (Nat → Int32)) (x_9 : Int32) (x_10 : Int32) (z_11 : (Nat → Int32)) (x_12 : Int32)  : sX8_roomOn_j292 jb f i x_1 x_2 x_3 x_4 x_5 x_6 z_7 x_9 x_10 z_11 x_12 0 = z_11 0 := by
  unfold sX8_roomOn_j292
  (repeat' split) <;> simp [upd, lay_0, ro0_roomOn_j356, ro0_roomOn_j333, ro0_roomOn_j311, ro0_roomOn_z_13]
theorem ro0_roomOn_z_11 (jb : Nat → Int32) (f : Nat → Int32) (i : Nat) (x_1 : Int32) (x_2 : Int32) (x_3 : Int32) (x_4 : Int32) (x_5 : Int32) (x_6 : Int32) (z_7 : (Nat → Int32)) (x_9 : Int32) (x_10 : Int32) (z_11 : (Nat → Int32))  : sX8_roomOn_z_11 jb f i x_1 x_2 x_3 x_4 x_5 x_6 z_7 x_9 x_10 z_11 0 = z_11 0 := by
  unfold sX8_roomOn_z_11
  (repeat' split) <;> simp [upd, lay_0, ro0_roomOn_j356, ro0_roomOn_j333, ro0_roomOn_j311, ro0_roomOn_z_13, ro0_roomOn_j292]
theorem ro0_roomOn_j261 (jb : Nat → Int32) (f : Nat → Int32) (i : Nat) (x_1 : Int32) (x_2 : Int32) (x_3 : Int32) (x_4 : Int32) (x_5 : Int32) (x_6 : Int32) (z_7 : (Nat → Int32)) (x_9 : Int32) (x_10 : Int32)  : sX8_roomOn_j261 jb f i x_1 x_2 x_3 x_4 x_5 x_6 z_7 x_9 x_10 0 = z_7 0 := by
  unfold sX8_roomOn_j261
  (repeat' split) <;> simp [upd, lay_0, ro0_roomOn_j356, ro0_roomOn_j333, ro0_roomOn_j311, ro0_roomOn_z_13, ro0_roomOn_j292, ro0_roomOn_z_11]
theorem ro0_roomOn_j251 (jb : Nat → Int32) (f : Nat → Int32) (i : Nat) (x_1 : Int32) (x_2 : Int32) (x_3 : Int32) (x_4 : Int32) (x_5 : Int32) (x_6 : Int32) (z_7 : (Nat → Int32)) (x_9 : Int32)  : sX8_roomOn_j251 jb f i x_1 x_2 x_3 x_4 x_5 x_6 z_7 x_9 0 = z_7 0 := by
  unfold sX8_roomOn_j251
  (repeat' split) <;> simp [upd, lay_0, ro0_roomOn_j356, ro0_roomOn_j333, ro0_roomOn_j311, ro0_roomOn_z_13, ro0_roomOn_j292, ro0_roomOn_z_11, ro0_roomOn_j261]
theorem ro0_roomOn_j356p (jb : Nat → Int32) (f : Nat → Int32) (i : Nat) (x_1 : Int32) (x_2 : Int32) (x_3 : Int32) (x_4 : Int32) (x_5 : Int32) (x_6 : Int32) (z_7 : (Nat → Int32)) (x_17 : Int32) (z_18 : (Nat → Int32)) (x_19 : Int32) (z_20 : (Nat → Int32)) (x_21 : Int32) (z_22 : (Nat → Int32)) (x_23 : Int32) (x_24 : Int32) (x_25 : Int32)  : sX8_roomOn_j356' jb f i x_1 x_2 x_3 x_4 x_5 x_6 z_7 x_17 z_18 x_19 z_20 x_21 z_22 x_23 x_24 x_25 0 = z_22 0 := by
  unfold sX8_roomOn_j356'
  (repeat' split) <;> simp [upd, lay_0, ro0_roomOn_j356, ro0_roomOn_j333, ro0_roomOn_j311, ro0_roomOn_z_13, ro0_roomOn_j292, ro0_roomOn_z_11, ro0_roomOn_j261, ro0_roomOn_j251]
theorem ro0_roomOn_j333p (jb : Nat → Int32) (f : Nat → Int32) (i : Nat) (x_1 : Int32) (x_2 : Int32) (x_3 : Int32) (x_4 : Int32) (x_5 : Int32) (x_6 : Int32) (z_7 : (Nat → Int32)) (x_17 : Int32) (z_18 : (Nat → Int32)) (x_19 : Int32) (z_20 : (Nat → Int32)) (x_21 : Int32) (z_22 : (Nat → Int32)) (x_23 : Int32) (x_24 : Int32)  : sX8_roomOn_j333' jb f i x_1 x_2 x_3 x_4 x_5 x_6 z_7 x_17 z_18 x_19 z_20 x_21 z_22 x_23 x_24 0 = z_22 0 := by
  unfold sX8_roomOn_j333'
  (repeat' split) <;> simp [upd, lay_0, ro0_roomOn_j356, ro0_roomOn_j333, ro0_roomOn_j311, ro0_roomOn_z_13, ro0_roomOn_j292, ro0_roomOn_z_11, ro0_roomOn_j261, ro0_roomOn_j251, ro0_roomOn_j356p]
theorem ro0_roomOn_j311p (jb : Nat → Int32) (f : Nat → Int32) (i : Nat) (x_1 : Int32) (x_2 : Int32) (x_3 : Int32) (x_4 : Int32) (x_5 : Int32) (x_6 : Int32) (z_7 : (Nat → Int32)) (x_17 : Int32) (z_18 : (Nat → Int32)) (x_19 : Int32) (z_20 : (Nat → Int32)) (x_21 : Int32) (z_22 : (Nat → Int32)) (x_23 : Int32)  : sX8_roomOn_j311' jb f i x_1 x_2 x_3 x_4 x_5 x_6 z_7 x_17 z_18 x_19 z_20 x_21 z_22 x_23 0 = z_22 0 := by
  unfold sX8_roomOn_j311'
  (repeat' split) <;> simp [upd, lay_0, ro0_roomOn_j356, ro0_roomOn_j333, ro0_roomOn_j311, ro0_roomOn_z_13, ro0_roomOn_j292, ro0_roomOn_z_11, ro0_roomOn_j261, ro0_roomOn_j251, ro0_roomOn_j356p, ro0_roomOn_j333p]
theorem ro0_roomOn_z_22 (jb : Nat → Int32) (f : Nat → Int32) (i : Nat) (x_1 : Int32) (x_2 : Int32) (x_3 : Int32) (x_4 : Int32) (x_5 : Int32) (x_6 : Int32) (z_7 : (Nat → Int32)) (x_17 : Int32) (z_18 : (Nat → Int32)) (x_19 : Int32) (z_20 : (Nat → Int32)) (x_21 : Int32) (z_22 : (Nat → Int32))  : sX8_roomOn_z_22 jb f i x_1 x_2 x_3 x_4 x_5 x_6 z_7 x_17 z_18 x_19 z_20 x_21 z_22 0 = z_22 0 := by
  unfold sX8_roomOn_z_22
  (repeat' split) <;> simp [upd, lay_0, ro0_roomOn_j356, ro0_roomOn_j333, ro0_roomOn_j311, ro0_roomOn_z_13, ro0_roomOn_j292, ro0_roomOn_z_11, ro0_roomOn_j261, ro0_roomOn_j251, ro0_roomOn_j356p, ro0_roomOn_j333p, ro0_roomOn_j311p]
theorem ro0_roomOn_j292p (jb : Nat → Int32) (f : Nat → Int32) (i : Nat) (x_1 : Int32) (x_2 : Int32) (x_3 : Int32) (x_4 : Int32) (x_5 : Int32) (x_6 : Int32) (z_7 : (Nat → Int32)) (x_17 : Int32) (z_18 : (Nat → Int32)) (x_19 : Int32) (z_20 : (Nat → Int32)) (x_21 : Int32)  : sX8_roomOn_j292' jb f i x_1 x_2 x_3 x_4 x_5 x_6 z_7 x_17 z_18 x_19 z_20 x_21 0 = z_20 0 := by
  unfold sX8_roomOn_j292'
  (repeat' split) <;> simp [upd, lay_0, ro0_roomOn_j356, ro0_roomOn_j333, ro0_roomOn_j311, ro0_roomOn_z_13, ro0_roomOn_j292, ro0_roomOn_z_11, ro0_roomOn_j261, ro0_roomOn_j251, ro0_roomOn_j356p, ro0_roomOn_j333p, ro0_roomOn_j311p, ro0_roomOn_z_22]
theorem ro0_roomOn_z_20 (jb : Nat → Int32) (f : Nat → Int32) (i : Nat) (x_1 : Int32) (x_2 : Int32) (x_3 : Int32) (x_4 : Int32) (x_5 : Int32) (x_6 : Int32) (z_7 : (Nat → Int32)) (x_17 : Int32) (z_18 : (Nat → Int32)) (x_19 : Int32) (z_20 : (Nat → Int32))  : sX8_roomOn_z_20 jb f i x_1 x_2 x_3 x_4 x_5 x_6 z_7 x_17 z_18 x_19 z_20 0 = z_20 0 := by
  unfold sX8_roomOn_z_20
  (repeat' split) <;> simp [upd, lay_0, ro0_roomOn_j356, ro0_roomOn_j333, ro0_roomOn_j311, ro0_roomOn_z_13, ro0_roomOn_j292, ro0_roomOn_z_11, ro0_roomOn_j261, ro0_roomOn_j251, ro0_roomOn_j356p, ro0_roomOn_j333p, ro0_roomOn_j311p, ro0_roomOn_z_22, ro0_roomOn_j292p]
theorem ro0_roomOn_j226 (jb : Nat → Int32) (f : Nat → Int32) (i : Nat) (x_1 : Int32) (x_2 : Int32) (x_3 : Int32) (x_4 : Int32) (x_5 : Int32) (x_6 : Int32) (z_7 : (Nat → Int32)) (x_17 : Int32) (z_18 : (Nat → Int32)) (x_19 : Int32)  : sX8_roomOn_j226 jb f i x_1 x_2 x_3 x_4 x_5 x_6 z_7 x_17 z_18 x_19 0 = z_18 0 := by
  unfold sX8_roomOn_j226
  (repeat' split) <;> simp [upd, lay_0, ro0_roomOn_j356, ro0_roomOn_j333, ro0_roomOn_j311, ro0_roomOn_z_13, ro0_roomOn_j292, ro0_roomOn_z_11, ro0_roomOn_j261, ro0_roomOn_j251, ro0_roomOn_j356p, ro0_roomOn_j333p, ro0_roomOn_j311p, ro0_roomOn_z_22, ro0_roomOn_j292p, ro0_roomOn_z_20]
theorem ro0_roomOn_z_18 (jb : Nat → Int32) (f : Nat → Int32) (i : Nat) (x_1 : Int32) (x_2 : Int32) (x_3 : Int32) (x_4 : Int32) (x_5 : Int32) (x_6 : Int32) (z_7 : (Nat → Int32)) (x_17 : Int32) (z_18 : (Nat → Int32))  : sX8_roomOn_z_18 jb f i x_1 x_2 x_3 x_4 x_5 x_6 z_7 x_17 z_18 0 = z_18 0 := by
  unfold sX8_roomOn_z_18
  (repeat' split) <;> simp [upd, lay_0, ro0_roomOn_j356, ro0_roomOn_j333, ro0_roomOn_j311, ro0_roomOn_z_13, ro0_roomOn_j292, ro0_roomOn_z_11, ro0_roomOn_j261, ro0_roomOn_j251, ro0_roomOn_j356p, ro0_roomOn_j333p, ro0_roomOn_j311p, ro0_roomOn_z_22, ro0_roomOn_j292p, ro0_roomOn_z_20, ro0_roomOn_j226]
theorem ro0_roomOn_j182 (jb : Nat → Int32) (f : Nat → Int32) (i : Nat) (x_1 : Int32) (x_2 : Int32) (x_3 : Int32) (x_4 : Int32) (x_5 : Int32) (x_6 : Int32) (z_7 : (Nat → Int32)) (x_17 : Int32)  : sX8_roomOn_j182 jb f i x_1 x_2 x_3 x_4 x_5 x_6 z_7 x_17 0 = z_7 0 := by
  unfold sX8_roomOn_j182
  (repeat' split) <;> simp [upd, lay_0, ro0_roomOn_j356, ro0_roomOn_j333, ro0_roomOn_j311, ro0_roomOn_z_13, ro0_roomOn_j292, ro0_roomOn_z_11, ro0_roomOn_j261, ro0_roomOn_j251, ro0_roomOn_j356p, ro0_roomOn_j333p, ro0_roomOn_j311p, ro0_roomOn_z_22, ro0_roomOn_j292p, ro0_roomOn_z_20, ro0_roomOn_j226, ro0_roomOn_z_18]
theorem ro0_roomOn_z_7 (jb : Nat → Int32) (f : Nat → Int32) (i : Nat) (x_1 : Int32) (x_2 : Int32) (x_3 : Int32) (x_4 : Int32) (x_5 : Int32) (x_6 : Int32) (z_7 : (Nat → Int32))  : sX8_roomOn_z_7 jb f i x_1 x_2 x_3 x_4 x_5 x_6 z_7 0 = z_7 0 := by
  unfold sX8_roomOn_z_7
  (repeat' split) <;> simp [upd, lay_0, ro0_roomOn_j356, ro0_roomOn_j333, ro0_roomOn_j311, ro0_roomOn_z_13, ro0_roomOn_j292, ro0_roomOn_z_11, ro0_roomOn_j261, ro0_roomOn_j251, ro0_roomOn_j356p, ro0_roomOn_j333p, ro0_roomOn_j311p, ro0_roomOn_z_22, ro0_roomOn_j292p, ro0_roomOn_z_20, ro0_roomOn_j226, ro0_roomOn_z_18, ro0_roomOn_j182]
theorem ro0_roomOn_j145 (jb : Nat → Int32) (f : Nat → Int32) (i : Nat) (x_1 : Int32) (x_2 : Int32) (x_3 : Int32) (x_4 : Int32) (x_5 : Int32) (x_6 : Int32)  : sX8_roomOn_j145 jb f i x_1 x_2 x_3 x_4 x_5 x_6 0 = f 0 := by
  unfold sX8_roomOn_j145
  (repeat' split) <;> simp [upd, lay_0, ro0_roomOn_j356, ro0_roomOn_j333, ro0_roomOn_j311, ro0_roomOn_z_13, ro0_roomOn_j292, ro0_roomOn_z_11, ro0_roomOn_j261, ro0_roomOn_j251, ro0_roomOn_j356p, ro0_roomOn_j333p, ro0_roomOn_j311p, ro0_roomOn_z_22, ro0_roomOn_j292p, ro0_roomOn_z_20, ro0_roomOn_j226, ro0_roomOn_z_18, ro0_roomOn_j182, ro0_roomOn_z_7]
theorem ro0_roomOn_j122 (jb : Nat → Int32) (f : Nat → Int32) (i : Nat) (x_1 : Int32) (x_2 : Int32) (x_3 : Int32) (x_4 : Int32) (x_5 : Int32)  : sX8_roomOn_j122 jb f i x_1 x_2 x_3 x_4 x_5 0 = f 0 := by
  unfold sX8_roomOn_j122
  (repeat' split) <;> simp [upd, lay_0, ro0_roomOn_j356, ro0_roomOn_j333, ro0_roomOn_j311, ro0_roomOn_z_13, ro0_roomOn_j292, ro0_roomOn_z_11, ro0_roomOn_j261, ro0_roomOn_j251, ro0_roomOn_j356p, ro0_roomOn_j333p, ro0_roomOn_j311p, ro0_roomOn_z_22, ro0_roomOn_j292p, ro0_roomOn_z_20, ro0_roomOn_j226, ro0_roomOn_z_18, ro0_roomOn_j182, ro0_roomOn_z_7, ro0_roomOn_j145]
theorem ro0_roomOn_j89 (jb : Nat → Int32) (f : Nat → Int32) (i : Nat) (x_1 : Int32) (x_2 : Int32) (x_3 : Int32) (x_4 : Int32)  : sX8_roomOn_j89 jb f i x_1 x_2 x_3 x_4 0 = f 0 := by
  unfold sX8_roomOn_j89
  (repeat' split) <;> simp [upd, lay_0, ro0_roomOn_j356, ro0_roomOn_j333, ro0_roomOn_j311, ro0_roomOn_z_13, ro0_roomOn_j292, ro0_roomOn_z_11, ro0_roomOn_j261, ro0_roomOn_j251, ro0_roomOn_j356p, ro0_roomOn_j333p, ro0_roomOn_j311p, ro0_roomOn_z_22, ro0_roomOn_j292p, ro0_roomOn_z_20, ro0_roomOn_j226, ro0_roomOn_z_18, ro0_roomOn_j182, ro0_roomOn_z_7, ro0_roomOn_j145, ro0_roomOn_j122]
theorem ro0_roomOn_j68 (jb : Nat → Int32) (f : Nat → Int32) (i : Nat) (x_1 : Int32) (x_2 : Int32) (x_3 : Int32)  : sX8_roomOn_j68 jb f i x_1 x_2 x_3 0 = f 0 := by
  unfold sX8_roomOn_j68
  (repeat' split) <;> simp [upd, lay_0, ro0_roomOn_j356, ro0_roomOn_j333, ro0_roomOn_j311, ro0_roomOn_z_13, ro0_roomOn_j292, ro0_roomOn_z_11, ro0_roomOn_j261, ro0_roomOn_j251, ro0_roomOn_j356p, ro0_roomOn_j333p, ro0_roomOn_j311p, ro0_roomOn_z_22, ro0_roomOn_j292p, ro0_roomOn_z_20, ro0_roomOn_j226, ro0_roomOn_z_18, ro0_roomOn_j182, ro0_roomOn_z_7, ro0_roomOn_j145, ro0_roomOn_j122, ro0_roomOn_j89]
theorem ro0_roomOn_j41 (jb : Nat → Int32) (f : Nat → Int32) (i : Nat) (x_1 : Int32) (x_2 : Int32)  : sX8_roomOn_j41 jb f i x_1 x_2 0 = f 0 := by
  unfold sX8_roomOn_j41
  (repeat' split) <;> simp [upd, lay_0, ro0_roomOn_j356, ro0_roomOn_j333, ro0_roomOn_j311, ro0_roomOn_z_13, ro0_roomOn_j292, ro0_roomOn_z_11, ro0_roomOn_j261, ro0_roomOn_j251, ro0_roomOn_j356p, ro0_roomOn_j333p, ro0_roomOn_j311p, ro0_roomOn_z_22, ro0_roomOn_j292p, ro0_roomOn_z_20, ro0_roomOn_j226, ro0_roomOn_z_18, ro0_roomOn_j182, ro0_roomOn_z_7, ro0_roomOn_j145, ro0_roomOn_j122, ro0_roomOn_j89, ro0_roomOn_j68]
theorem ro0_roomOn_j15 (jb : Nat → Int32) (f : Nat → Int32) (i : Nat) (x_1 : Int32)  : sX8_roomOn_j15 jb f i x_1 0 = f 0 := by
  unfold sX8_roomOn_j15
  (repeat' split) <;> simp [upd, lay_0, ro0_roomOn_j356, ro0_roomOn_j333, ro0_roomOn_j311, ro0_roomOn_z_13, ro0_roomOn_j292, ro0_roomOn_z_11, ro0_roomOn_j261, ro0_roomOn_j251, ro0_roomOn_j356p, ro0_roomOn_j333p, ro0_roomOn_j311p, ro0_roomOn_z_22, ro0_roomOn_j292p, ro0_roomOn_z_20, ro0_roomOn_j226, ro0_roomOn_z_18, ro0_roomOn_j182, ro0_roomOn_z_7, ro0_roomOn_j145, ro0_roomOn_j122, ro0_roomOn_j89, ro0_roomOn_j68, ro0_roomOn_j41]
theorem ro_0 {i : Nat} (hi : i < 6) (jb f : Nat → Int32) : sX8_roomOn jb f i 0 = f 0 := by
  unfold sX8_roomOn
  simp [ro0_roomOn_j356, ro0_roomOn_j333, ro0_roomOn_j311, ro0_roomOn_z_13, ro0_roomOn_j292, ro0_roomOn_z_11, ro0_roomOn_j261, ro0_roomOn_j251, ro0_roomOn_j356p, ro0_roomOn_j333p, ro0_roomOn_j311p, ro0_roomOn_z_22, ro0_roomOn_j292p, ro0_roomOn_z_20, ro0_roomOn_j226, ro0_roomOn_z_18, ro0_roomOn_j182, ro0_roomOn_z_7, ro0_roomOn_j145, ro0_roomOn_j122, ro0_roomOn_j89, ro0_roomOn_j68, ro0_roomOn_j41, ro0_roomOn_j15]
theorem me_0 (f : Nat → Int32) (k : Int32) : sX8_measure f k 0 = f 0 := by
  simp only [sX8_measure, sX8_measure_j87, sX8_measure_j65, sX8_measure_j20]
  repeat' split
  all_goals simp [upd]
def lp_X8_minuteOn_15 (q : Nat → Int32) (jb : Nat → Int32) (f : Nat → Int32) (n : Nat) (z_1 : (Nat → Int32) × (Nat → Int32)) (z_2 : (Nat → Int32)) : Nat → Nat → (Nat → Int32) → (Nat → Int32) × (Nat → Int32) × (Nat → Int32)
  | 0, i, f1 => (z_1.1, z_1.2, f1)
  | d + 1, i, f1 => ((fun (z_3 : (Nat → Int32)) => (lp_X8_minuteOn_15 q jb f n z_1 z_2 d (i + 1) z_3)) (sX8_roomOn z_1.2 f1 i))
def sX8_minuteOn_z_2 (q : Nat → Int32) (jb : Nat → Int32) (f : Nat → Int32) (n : Nat) (z_1 : (Nat → Int32) × (Nat → Int32)) (z_2 : (Nat → Int32)) : (Nat → Int32) × (Nat → Int32) × (Nat → Int32) :=
  (lp_X8_minuteOn_15 q jb f n z_1 z_2 n 0 z_2)
def sX8_minuteOn_z_1 (q : Nat → Int32) (jb : Nat → Int32) (f : Nat → Int32) (n : Nat) (z_1 : (Nat → Int32) × (Nat → Int32)) : (Nat → Int32) × (Nat → Int32) × (Nat → Int32) :=
  (sX8_minuteOn_z_2 q jb f n z_1 (sX8_measure f (z_1.1 10)))
def sX8_minuteOn (q : Nat → Int32) (jb : Nat → Int32) (f : Nat → Int32) (n : Nat) : (Nat → Int32) × (Nat → Int32) × (Nat → Int32) :=
  (sX8_minuteOn_z_1 q jb f n (sX8_find q jb f n))
theorem mn_00 {q jb f : Nat → Int32} {n : Nat} {z : (Nat → Int32) × (Nat → Int32)} {z2 : Nat → Int32} : ∀ (d i : Nat) (f1 : Nat → Int32), i + d ≤ 6 → (lp_X8_minuteOn_15 q jb f n z z2 d i f1).2.2 0 = f1 0
  | 0, i, f1, h => rfl
  | d + 1, i, f1, h => by
    show (lp_X8_minuteOn_15 q jb f n z z2 d (i + 1) (sX8_roomOn z.2 f1 i)).2.2 0 = f1 0
    rw [mn_00 d (i + 1) _ (by omega), ro_0 (by omega)]
theorem mn_0 {n : Nat} (h6 : n ≤ 6) (q jb f : Nat → Int32) : (sX8_minuteOn q jb f n).2.2 0 = f 0 := by
  show (lp_X8_minuteOn_15 q jb f n (sX8_find q jb f n) (sX8_measure f ((sX8_find q jb f n).1 10)) n 0 (sX8_measure f ((sX8_find q jb f n).1 10))).2.2 0 = f 0
  rw [mn_00 n 0 _ (by omega), me_0]
def lp_X8_runOn_7 (q : Nat → Int32) (jb : Nat → Int32) (f : Nat → Int32) (m0 : Int32) (n : Nat) : Nat → Nat → (Nat → Int32) → (Nat → Int32) → (Nat → Int32) → Int32 × (Nat → Int32) × (Nat → Int32) × (Nat → Int32)
  | 0, i, q1, jb1, f1 => (((f1 5) - (f 5)), q1, jb1, f1)
  | d + 1, i, q1, jb1, f1 => ((fun (z_1 : (Nat → Int32) × (Nat → Int32) × (Nat → Int32)) => (lp_X8_runOn_7 q jb f m0 n d (i + 1) z_1.1 z_1.2.1 z_1.2.2)) (sX8_minuteOn q1 jb1 f1 n))
def sX8_runOn (q : Nat → Int32) (jb : Nat → Int32) (f : Nat → Int32) (m0 : Int32) (n : Nat) : Int32 × (Nat → Int32) × (Nat → Int32) × (Nat → Int32) :=
  (lp_X8_runOn_7 q jb f m0 n m0.toNatClampNeg 0 q jb f)
def sX8_isNew (x : Int32) (y : Int32) (z : Int32) : Int32 :=
  (if (sX8_in (x.toInt64) 1 50) = 0 then 0 else (if (sX8_in (y.toInt64) (-300) 200) = 0 then 0 else (if (sX8_in (z.toInt64) ((y + 1).toInt64) 200) = 0 then 0 else 1)))
def sX8_addOn_z_4 (f : Nat → Int32) (n : Nat) (x : Int32) (y : Int32) (z : Int32) (i : Nat) (f1 : Nat → Int32) (z_1 : (Nat → Int32)) (z_2 : (Nat → Int32)) (z_3 : (Nat → Int32)) (z_4 : (Nat → Int32)) : Int32 × (Nat → Int32) :=
  ((nI n), (upd z_4 0 ((z_4 0) + 1)))
def sX8_addOn_z_3 (f : Nat → Int32) (n : Nat) (x : Int32) (y : Int32) (z : Int32) (i : Nat) (f1 : Nat → Int32) (z_1 : (Nat → Int32)) (z_2 : (Nat → Int32)) (z_3 : (Nat → Int32)) : Int32 × (Nat → Int32) :=
  (sX8_addOn_z_4 f n x y z i f1 z_1 z_2 z_3 (sX8_lay z_3 n 3 y))
def sX8_addOn_z_2 (f : Nat → Int32) (n : Nat) (x : Int32) (y : Int32) (z : Int32) (i : Nat) (f1 : Nat → Int32) (z_1 : (Nat → Int32)) (z_2 : (Nat → Int32)) : Int32 × (Nat → Int32) :=
  (sX8_addOn_z_3 f n x y z i f1 z_1 z_2 (sX8_lay z_2 n 2 z))
def sX8_addOn_z_1 (f : Nat → Int32) (n : Nat) (x : Int32) (y : Int32) (z : Int32) (i : Nat) (f1 : Nat → Int32) (z_1 : (Nat → Int32)) : Int32 × (Nat → Int32) :=
  (sX8_addOn_z_2 f n x y z i f1 z_1 (sX8_lay z_1 n 1 y))
def lp_X8_addOn_8 (f : Nat → Int32) (n : Nat) (x : Int32) (y : Int32) (z : Int32) : Nat → Nat → (Nat → Int32) → Int32 × (Nat → Int32)
  | 0, i, f1 => (sX8_addOn_z_1 f n x y z i f1 (sX8_lay f1 n 0 x))
  | d + 1, i, f1 => ((fun (z_5 : (Nat → Int32)) => (lp_X8_addOn_8 f n x y z d (i + 1) z_5)) (sX8_lay f1 n i 0))
def sX8_addOn (f : Nat → Int32) (n : Nat) (x : Int32) (y : Int32) (z : Int32) : Int32 × (Nat → Int32) :=
  (lp_X8_addOn_8 f n x y z 8 0 f)
def lp_X8_doorOn_20 (f : Nat → Int32) (n : Nat) (i0 : Nat) (o : Int32) (x_1 : Int32) (z_2 : (Nat → Int32)) : Nat → Nat → Int32 → Int32 × (Nat → Int32)
  | 0, i, t => (t, z_2)
  | d + 1, i, t => (lp_X8_doorOn_20 f n i0 o x_1 z_2 d (i + 1) (t + (sX8_of z_2 i 4)))
def sX8_doorOn_z_2 (f : Nat → Int32) (n : Nat) (i0 : Nat) (o : Int32) (x_1 : Int32) (z_2 : (Nat → Int32)) : Int32 × (Nat → Int32) :=
  (lp_X8_doorOn_20 f n i0 o x_1 z_2 n 0 0)
def sX8_doorOn_j12 (f : Nat → Int32) (n : Nat) (i0 : Nat) (o : Int32) (x_1 : Int32) : Int32 × (Nat → Int32) :=
  (sX8_doorOn_z_2 f n i0 o x_1 (sX8_lay f i0 4 x_1))
def sX8_doorOn (f : Nat → Int32) (n : Nat) (i0 : Nat) (o : Int32) : Int32 × (Nat → Int32) :=
  (sX8_doorOn_j12 f n i0 o (if o = 0 then 0 else 1))
def sX8_goodsOn_z_1 (f : Nat → Int32) (i : Nat) (v : Int32) (z_1 : (Nat → Int32)) : Int32 × (Nat → Int32) :=
  ((sX8_of f i 3), z_1)
def sX8_goodsOn (f : Nat → Int32) (i : Nat) (v : Int32) : Int32 × (Nat → Int32) :=
  (sX8_goodsOn_z_1 f i v (sX8_lay f i 3 v))
def sX8_isSetting_j26 (w : Int32) (v : Int32) (x_1 : Int64) : Int32 :=
  (if w = 0 then (sX8_in (v.toInt64) x_1 9999) else (if w = 1 then (sX8_in (v.toInt64) x_1 14) else (if w = 2 then (sX8_in (v.toInt64) x_1 99) else (if w = 3 then (sX8_in (v.toInt64) x_1 50) else (if w = 4 then (sX8_in (v.toInt64) x_1 100) else (sX8_in (v.toInt64) x_1 30))))))
def sX8_isSetting (w : Int32) (v : Int32) : Int32 :=
  (if (sX8_in (w.toInt64) 0 5) = 0 then 0 else (sX8_isSetting_j26 w v (if 3 ≤ w then 1 else 0)))
