
def sX8_refused (q : Nat → Int32) (x : Int32) : Int32 × (Nat → Int32) :=
  (if x ≤ 0 then (0, (upd q 0 x)) else (1, (upd q 0 x)))
def sX8_thrown (q : Nat → Int32) : Int32 :=
  (q 0)
def rfz (x : Int32) : Int32 := if x ≤ 0 then 0 else 1
theorem refused_e (q : Nat → Int32) (x : Int32) : sX8_refused q x = (rfz x, upd q 0 x) := by
  unfold sX8_refused rfz
  split <;> rfl
theorem in_iff {v lo hi : Int64} : ¬ sX8_in v lo hi = 0 ↔ lo ≤ v ∧ v ≤ hi := by
  unfold sX8_in lg_cmp
  constructor
  · intro h
    by_cases h1 : v < lo
    · have h2 : ¬ v > lo := Int64.not_lt.mpr (Int64.le_of_lt h1)
      have h3 : ¬ v = lo := fun q => by rw [q] at h1; exact absurd h1 (Int64.lt_irrefl)
      rw [if_neg h2, if_neg h3, if_pos (by decide)] at h
      exact absurd rfl h
    · refine ⟨Int64.not_lt.mp h1, ?_⟩
      by_cases h4 : v > hi
      · have e : (if v > hi then (1 : Int32) else if v = hi then 0 else -1) = 1 := if_pos h4
        have e2 : (0 : Int32) < (if v > hi then (1 : Int32) else if v = hi then 0 else -1) := by rw [e]; decide
        rw [if_pos e2, ite_self] at h
        exact absurd rfl h
      · exact Int64.not_lt.mp h4
  · rintro ⟨h1, h2⟩
    have h3 : ¬ (if v > lo then (1 : Int32) else if v = lo then 0 else -1) < 0 := by
      by_cases q : v > lo
      · rw [if_pos q]; decide
      · rw [if_neg q]
        have : v = lo := Int64.le_antisymm (Int64.not_lt.mp q) h1
        rw [if_pos this]; decide
    have h4 : ¬ 0 < (if v > hi then (1 : Int32) else if v = hi then 0 else -1) := by
      by_cases q : v > hi
      · exact absurd h2 (Int64.not_le.mpr q)
      · rw [if_neg q]
        split <;> decide
    rw [if_neg h3, if_neg h4]
    decide
theorem i64_le (a b : Int32) : a.toInt64 ≤ b.toInt64 ↔ a.toInt ≤ b.toInt := by
  rw [Int64.le_iff_toInt_le, Int32.toInt_toInt64, Int32.toInt_toInt64]
theorem in_i {x : Int32} {lo hi : Int64} {a b : Int} (h : ¬ sX8_in x.toInt64 lo hi = 0) (ha : lo.toInt = a) (hb : hi.toInt = b) : a ≤ x.toInt ∧ x.toInt ≤ b := by
  obtain ⟨h1, h2⟩ := in_iff.mp h
  rw [Int64.le_iff_toInt_le, Int32.toInt_toInt64, ha] at h1
  rw [Int64.le_iff_toInt_le, Int32.toInt_toInt64, hb] at h2
  exact ⟨h1, h2⟩
theorem nn_e {x : Int32} (h : 0 ≤ x.toInt) : x = nI x.toNatClampNeg := tc_e (fun q => by
  have := Int32.lt_iff_toInt_lt.mp q
  have e : (0 : Int32).toInt = 0 := rfl
  omega)
theorem nn_l {x : Int32} {n : Nat} (h : x.toInt < n) (hn : 0 < n) : x.toNatClampNeg < n := by
  have e : x.toNatClampNeg = x.toInt.toNat := rfl
  rw [e]
  omega
theorem in_n {x : Int32} {hi : Int64} {n : Nat} (h : ¬ sX8_in x.toInt64 0 hi = 0) (hb : hi.toInt = n) : x = nI x.toNatClampNeg ∧ x.toNatClampNeg < n + 1 := by
  obtain ⟨h1, h2⟩ := in_i (a := 0) (b := n) h rfl hb
  exact ⟨nn_e h1, nn_l (by omega) (by omega)⟩
theorem in_p {x : Int32} {hi : Int64} {n : Nat} (h : ¬ sX8_in x.toInt64 1 hi = 0) (hb : hi.toInt = n) : x = nI x.toNatClampNeg ∧ x.toNatClampNeg < n + 1 := by
  obtain ⟨h1, h2⟩ := in_i (a := 1) (b := n) h rfl hb
  exact ⟨nn_e (by omega), nn_l (by omega) (by omega)⟩
theorem isRoom_in {f : Nat → Int32} {n : Nat} {i : Int32} (hn : f 0 = nI n) (h6 : n ≤ 6) (h : ¬ sX8_isRoom f i = 0) : i = nI i.toNatClampNeg ∧ i.toNatClampNeg < n := by
  unfold sX8_isRoom at h
  rw [hn] at h
  have e : (nI n - 1).toInt64.toInt = (n : Int) - 1 := by
    rw [Int32.toInt_toInt64]
    have h1 : (nI n).toInt = n := nI_toInt (by omega)
    rw [Int32.toInt_sub, h1]
    have h2 : (1 : Int32).toInt = 1 := rfl
    rw [h2, Int.bmod_eq_of_le] <;> omega
  obtain ⟨h1, h2⟩ := in_i (a := 0) (b := (n : Int) - 1) h rfl e
  exact ⟨nn_e h1, nn_l (by omega) (by omega)⟩
theorem cs_0 (f f2 : Nat → Int32) : sX8_copyState 0 0 f f2 0 = f 0 := by
  have key : ∀ (d i : Nat) (f3 : Nat → Int32), i + d = 64 → (0 < i → f3 0 = f 0) → (0 < i ∨ 0 < d) → lp_X8_copyState_3 0 0 f f2 d i f3 0 = f 0 := by
    intro d
    induction d with
    | zero => intro i f3 h1 h2 h3; exact h2 (by omega)
    | succ d ih =>
      intro i f3 h1 h2 h3
      refine ih (i + 1) _ (by omega) (fun _ => ?_) (Or.inl (by omega))
      by_cases hi : i = 0
      · subst hi; rfl
      · exact (pk_un (by omega)).trans (h2 (by omega))
  exact key 64 0 f2 rfl (fun h => absurd h (Nat.lt_irrefl 0)) (Or.inr (by decide))

theorem ads7 {a1 a2 a3 a4 a5 a6 a7 : Nat} {e1 f1 e2 f2 e3 f3 e4 f4 e5 f5 e6 f6 e7 f7 : va_E} : ([(a1, f1), (a2, f2), (a3, f3), (a4, f4), (a5, f5), (a6, f6), (a7, f7)] : va_W).map (fun q => q.1) = ([(a1, e1), (a2, e2), (a3, e3), (a4, e4), (a5, e5), (a6, e6), (a7, e7)] : va_W).map (fun q => q.1) := rfl
theorem ads8 {a1 a2 a3 a4 a5 a6 a7 a8 : Nat} {e1 f1 e2 f2 e3 f3 e4 f4 e5 f5 e6 f6 e7 f7 e8 f8 : va_E} : ([(a1, f1), (a2, f2), (a3, f3), (a4, f4), (a5, f5), (a6, f6), (a7, f7), (a8, f8)] : va_W).map (fun q => q.1) = ([(a1, e1), (a2, e2), (a3, e3), (a4, e4), (a5, e5), (a6, e6), (a7, e7), (a8, e8)] : va_W).map (fun q => q.1) := rfl
theorem sz_l {q : Nat → Int32} {n : Nat} (hs : q 2 = nI n) (hz : n ≤ 120) (h : ¬ q 2 = 120) : n < 120 := by
  rcases Nat.lt_or_ge n 120 with r | r
  · exact r
  · have : n = 120 := by omega
    subst this
    exact absurd hs h
theorem c14 {c : Nat} (hc : c ≤ 14) (h : ¬ nI c = 14) : c < 14 := by
  rcases Nat.lt_or_ge c 14 with r | r
  · exact r
  · have : c = 14 := by omega
    subst this
    exact absurd rfl h
theorem ab_1 {w : Int32} (h : w = nI w.toNatClampNeg) (h1 : 3 ≤ w) (h2 : ¬ w = 3) : w - 1 = nI (w.toNatClampNeg - 1) := by
  rw [h]
  have h3 : 1 ≤ w.toNatClampNeg := by
    rcases Nat.lt_or_ge w.toNatClampNeg 1 with q | q
    · have : w.toNatClampNeg = 0 := by omega
      rw [this] at h
      rw [h] at h1
      exact absurd h1 (by decide)
    · exact q
  have e : (nI w.toNatClampNeg).toNatClampNeg = w.toNatClampNeg := by rw [← h]
  rw [e]
  exact pk_sub h3
def sX8_about (q : Nat → Int32) (tx : Nat → Int32) (f : Nat → Int32) (ft : Nat → Int32) (dy : Nat → Int32) (kp : Nat → Int32) (ik : Nat → Int32) (jb : Nat → Int32) (w : Int32) : Int32 × (Nat → Int32) :=
  (if (sX8_in (w.toInt64) 0 10) = 0 then (0, (upd q 0 1)) else (if 3 ≤ w then (if w = 3 then ((sX8_minutesLeft f), (upd q 0 0)) else ((f (w.toNatClampNeg - 1)), (upd q 0 0))) else ((f w.toNatClampNeg), (upd q 0 0))))
def sX8_append (q : Nat → Int32) (tx : Nat → Int32) (f : Nat → Int32) (ft : Nat → Int32) (dy : Nat → Int32) (kp : Nat → Int32) (ik : Nat → Int32) (jb : Nat → Int32) (x : Int32) (sz : Nat) : Int32 × (Nat → Int32) × (Nat → Int32) :=
  (if (sX8_in (x.toInt64) 0 255) = 0 then (0, (upd q 0 1), tx) else (if (q 2) = 120 then (0, (upd q 0 2), tx) else (((q 2) + 1), (upd (upd q 0 0) 2 ((q 2) + 1)), (upd tx sz x))))
def sX8_clearText (q : Nat → Int32) (tx : Nat → Int32) (f : Nat → Int32) (ft : Nat → Int32) (dy : Nat → Int32) (kp : Nat → Int32) (ik : Nat → Int32) (jb : Nat → Int32) : Int32 × (Nat → Int32) :=
  ((q 2), (upd (upd q 0 0) 2 0))
def sX8_room (q : Nat → Int32) (tx : Nat → Int32) (f : Nat → Int32) (ft : Nat → Int32) (dy : Nat → Int32) (kp : Nat → Int32) (ik : Nat → Int32) (jb : Nat → Int32) (n : Nat) (x : Int32) (y : Int32) : Int32 × (Nat → Int32) :=
  (if (sX8_isRoom f x) = 0 then (0, (upd q 0 1)) else (if (sX8_in (y.toInt64) 0 7) = 0 then (0, (upd q 0 2)) else ((sX8_of f x.toNatClampNeg y.toNatClampNeg), (upd q 0 0))))
def sX8_does_z_1 (q : Nat → Int32) (tx : Nat → Int32) (f : Nat → Int32) (ft : Nat → Int32) (dy : Nat → Int32) (kp : Nat → Int32) (ik : Nat → Int32) (jb : Nat → Int32) (n : Nat) (x : Int32) (z_1 : (Nat → Int32) × (Nat → Int32)) : Int32 × (Nat → Int32) × (Nat → Int32) :=
  ((z_1.2 x.toNatClampNeg), z_1.1, z_1.2)
def sX8_does (q : Nat → Int32) (tx : Nat → Int32) (f : Nat → Int32) (ft : Nat → Int32) (dy : Nat → Int32) (kp : Nat → Int32) (ik : Nat → Int32) (jb : Nat → Int32) (n : Nat) (x : Int32) : Int32 × (Nat → Int32) × (Nat → Int32) :=
  (if (sX8_isRoom f x) = 0 then (0, (upd q 0 1), jb) else (sX8_does_z_1 q tx f ft dy kp ik jb n x (sX8_find (upd q 0 0) jb f n)))
def sX8_setting (q : Nat → Int32) (tx : Nat → Int32) (f : Nat → Int32) (ft : Nat → Int32) (dy : Nat → Int32) (kp : Nat → Int32) (ik : Nat → Int32) (jb : Nat → Int32) (x : Int32) : Int32 × (Nat → Int32) :=
  (if (sX8_in (x.toInt64) 0 5) = 0 then (0, (upd q 0 1)) else ((f (10 + x.toNatClampNeg)), (upd q 0 0)))
def sX8_remember_z_1 (q : Nat → Int32) (tx : Nat → Int32) (f : Nat → Int32) (ft : Nat → Int32) (dy : Nat → Int32) (kp : Nat → Int32) (ik : Nat → Int32) (jb : Nat → Int32) (cc : Nat) (z_1 : (Nat → Int32)) : (Nat → Int32) × (Nat → Int32) :=
  ((upd q 6 ((q 6) + 1)), z_1)
def sX8_remember_z_2 (q : Nat → Int32) (tx : Nat → Int32) (f : Nat → Int32) (ft : Nat → Int32) (dy : Nat → Int32) (kp : Nat → Int32) (ik : Nat → Int32) (jb : Nat → Int32) (cc : Nat) (i : Nat) (dy1 : Nat → Int32) (z_2 : (Nat → Int32)) : (Nat → Int32) × (Nat → Int32) :=
  ((upd q 6 14), z_2)
def lp_X8_remember_11 (q : Nat → Int32) (tx : Nat → Int32) (f : Nat → Int32) (ft : Nat → Int32) (dy : Nat → Int32) (kp : Nat → Int32) (ik : Nat → Int32) (jb : Nat → Int32) (cc : Nat) : Nat → Nat → (Nat → Int32) → (Nat → Int32) × (Nat → Int32)
  | 0, i, dy1 => (sX8_remember_z_2 q tx f ft dy kp ik jb cc i dy1 (sX8_copyState 0 832 f dy1))
  | d + 1, i, dy1 => (lp_X8_remember_11 q tx f ft dy kp ik jb cc d (i + 1) (upd dy1 i (dy1 (i + 64))))
def sX8_remember (q : Nat → Int32) (tx : Nat → Int32) (f : Nat → Int32) (ft : Nat → Int32) (dy : Nat → Int32) (kp : Nat → Int32) (ik : Nat → Int32) (jb : Nat → Int32) (cc : Nat) : (Nat → Int32) × (Nat → Int32) :=
  (if (nI cc) = 14 then (lp_X8_remember_11 q tx f ft dy kp ik jb cc 832 0 dy) else (sX8_remember_z_1 q tx f ft dy kp ik jb cc (sX8_copyState 0 (64 * cc) f dy)))

theorem lt6 {f : Nat → Int32} {n : Nat} (hn : f 0 = nI n) (h6 : n ≤ 6) (h : ¬ 6 ≤ f 0) : n < 6 := by
  rcases Nat.lt_or_ge n 6 with q | q
  · exact q
  · have : n = 6 := by omega
    subst this
    rw [hn] at h
    exact absurd (by decide) h
theorem isSt_in {w v : Int32} (h : ¬ sX8_isSetting w v = 0) : w = nI w.toNatClampNeg ∧ w.toNatClampNeg < 6 := by
  unfold sX8_isSetting at h
  by_cases c : sX8_in w.toInt64 0 5 = 0
  · rw [if_pos c] at h; exact absurd rfl h
  · exact in_n (n := 5) c rfl
theorem ud_2 {q : Nat → Int32} {c : Nat} (hq : q 6 = nI c) (h : ¬ q 6 = 0) : 1 ≤ c := by
  rcases Nat.lt_or_ge c 1 with r | r
  · have : c = 0 := by omega
    subst this
    exact absurd hq h
  · exact r
theorem ud_1 {q : Nat → Int32} {c : Nat} (hq : q 6 = nI c) (h : ¬ q 6 = 0) : q 6 - 1 = nI (c - 1) := by
  rw [hq]
  exact pk_sub (ud_2 hq h)
theorem td15 (a : Int) : a.tmod 15 + a.tdiv 15 * 15 = a ∧ -15 < a.tmod 15 ∧ a.tmod 15 < 15 :=
  ⟨Int.tmod_add_tdiv_mul a 15, Int.lt_tmod_of_pos a (by decide), Int.tmod_lt_of_pos a (by decide)⟩
theorem ts15 (a : Int) : (0 ≤ a → 0 ≤ a.tmod 15) ∧ (a ≤ 0 → a.tmod 15 ≤ 0) := by
  refine ⟨fun h => Int.tmod_nonneg _ h, fun h => ?_⟩
  have h1 := Int.tmod_nonneg (a := -a) 15 (by omega)
  rw [Int.neg_tmod] at h1
  omega
theorem rem15 (x : Int32) : (x - x / 15 * 15).toInt = x.toInt.tmod 15 := by
  have h1 := x.le_toInt
  have h2 := x.toInt_lt
  obtain ⟨h3, h4, h5⟩ := td15 x.toInt
  obtain ⟨h6, h7⟩ := ts15 x.toInt
  have e15 : (15 : Int32).toInt = 15 := rfl
  have hq : (x / 15).toInt = x.toInt.tdiv 15 := by
    rw [Int32.toInt_div, e15, Int.bmod_eq_of_le] <;> omega
  have hm : (x.toInt.tdiv 15 * 15).bmod (2 ^ 32) = x.toInt.tdiv 15 * 15 := by
    rw [Int.bmod_eq_of_le] <;> omega
  rw [Int32.toInt_sub, Int32.toInt_mul, hq, e15, hm, Int.bmod_eq_of_le (by omega) (by omega)]
  omega
theorem ml_ne (f : Nat → Int32) : ¬ sX8_minutesLeft f = 0 := by
  unfold sX8_minutesLeft
  intro h
  have h2 : ((15 : Int32) - ((f 1 + f 11) - (f 1 + f 11) / 15 * 15)).toInt = 0 := by rw [h]; rfl
  obtain ⟨h3, h4, h5⟩ := td15 (f 1 + f 11).toInt
  have e15 : (15 : Int32).toInt = 15 := rfl
  rw [Int32.toInt_sub, rem15, e15, Int.bmod_eq_of_le] at h2 <;> omega
def sX8_add_z_2 (q : Nat → Int32) (tx : Nat → Int32) (f : Nat → Int32) (ft : Nat → Int32) (dy : Nat → Int32) (kp : Nat → Int32) (ik : Nat → Int32) (jb : Nat → Int32) (n : Nat) (x : Int32) (y : Int32) (z : Int32) (cc : Nat) (z_1 : (Nat → Int32) × (Nat → Int32)) (z_2 : Int32 × (Nat → Int32)) : Int32 × (Nat → Int32) × (Nat → Int32) × (Nat → Int32) :=
  (z_2.1, z_1.1, z_2.2, z_1.2)
def sX8_add_z_1 (q : Nat → Int32) (tx : Nat → Int32) (f : Nat → Int32) (ft : Nat → Int32) (dy : Nat → Int32) (kp : Nat → Int32) (ik : Nat → Int32) (jb : Nat → Int32) (n : Nat) (x : Int32) (y : Int32) (z : Int32) (cc : Nat) (z_1 : (Nat → Int32) × (Nat → Int32)) : Int32 × (Nat → Int32) × (Nat → Int32) × (Nat → Int32) :=
  (sX8_add_z_2 q tx f ft dy kp ik jb n x y z cc z_1 (sX8_addOn f n x y z))
def sX8_add (q : Nat → Int32) (tx : Nat → Int32) (f : Nat → Int32) (ft : Nat → Int32) (dy : Nat → Int32) (kp : Nat → Int32) (ik : Nat → Int32) (jb : Nat → Int32) (n : Nat) (x : Int32) (y : Int32) (z : Int32) (cc : Nat) : Int32 × (Nat → Int32) × (Nat → Int32) × (Nat → Int32) :=
  (if (sX8_isNew x y z) = 0 then (0, (upd q 0 1), f, dy) else (if 6 ≤ (f 0) then (0, (upd q 0 2), f, dy) else (sX8_add_z_1 q tx f ft dy kp ik jb n x y z cc (sX8_remember (upd q 0 0) tx f ft dy kp ik jb cc))))
def sX8_door_z_2 (q : Nat → Int32) (tx : Nat → Int32) (f : Nat → Int32) (ft : Nat → Int32) (dy : Nat → Int32) (kp : Nat → Int32) (ik : Nat → Int32) (jb : Nat → Int32) (n : Nat) (x : Int32) (y : Int32) (cc : Nat) (z_1 : (Nat → Int32) × (Nat → Int32)) (z_2 : Int32 × (Nat → Int32)) : Int32 × (Nat → Int32) × (Nat → Int32) × (Nat → Int32) :=
  (z_2.1, z_1.1, z_2.2, z_1.2)
def sX8_door_z_1 (q : Nat → Int32) (tx : Nat → Int32) (f : Nat → Int32) (ft : Nat → Int32) (dy : Nat → Int32) (kp : Nat → Int32) (ik : Nat → Int32) (jb : Nat → Int32) (n : Nat) (x : Int32) (y : Int32) (cc : Nat) (z_1 : (Nat → Int32) × (Nat → Int32)) : Int32 × (Nat → Int32) × (Nat → Int32) × (Nat → Int32) :=
  (sX8_door_z_2 q tx f ft dy kp ik jb n x y cc z_1 (sX8_doorOn f n x.toNatClampNeg y))
def sX8_door (q : Nat → Int32) (tx : Nat → Int32) (f : Nat → Int32) (ft : Nat → Int32) (dy : Nat → Int32) (kp : Nat → Int32) (ik : Nat → Int32) (jb : Nat → Int32) (n : Nat) (x : Int32) (y : Int32) (cc : Nat) : Int32 × (Nat → Int32) × (Nat → Int32) × (Nat → Int32) :=
  (if (sX8_isRoom f x) = 0 then (0, (upd q 0 1), f, dy) else (sX8_door_z_1 q tx f ft dy kp ik jb n x y cc (sX8_remember (upd q 0 0) tx f ft dy kp ik jb cc)))
def sX8_goods_z_2 (q : Nat → Int32) (tx : Nat → Int32) (f : Nat → Int32) (ft : Nat → Int32) (dy : Nat → Int32) (kp : Nat → Int32) (ik : Nat → Int32) (jb : Nat → Int32) (n : Nat) (x : Int32) (y : Int32) (cc : Nat) (z_1 : (Nat → Int32) × (Nat → Int32)) (z_2 : Int32 × (Nat → Int32)) : Int32 × (Nat → Int32) × (Nat → Int32) × (Nat → Int32) :=
  (z_2.1, z_1.1, z_2.2, z_1.2)
def sX8_goods_z_1 (q : Nat → Int32) (tx : Nat → Int32) (f : Nat → Int32) (ft : Nat → Int32) (dy : Nat → Int32) (kp : Nat → Int32) (ik : Nat → Int32) (jb : Nat → Int32) (n : Nat) (x : Int32) (y : Int32) (cc : Nat) (z_1 : (Nat → Int32) × (Nat → Int32)) : Int32 × (Nat → Int32) × (Nat → Int32) × (Nat → Int32) :=
  (sX8_goods_z_2 q tx f ft dy kp ik jb n x y cc z_1 (sX8_goodsOn f x.toNatClampNeg y))
def sX8_goods (q : Nat → Int32) (tx : Nat → Int32) (f : Nat → Int32) (ft : Nat → Int32) (dy : Nat → Int32) (kp : Nat → Int32) (ik : Nat → Int32) (jb : Nat → Int32) (n : Nat) (x : Int32) (y : Int32) (cc : Nat) : Int32 × (Nat → Int32) × (Nat → Int32) × (Nat → Int32) :=
  (if (sX8_isRoom f x) = 0 then (0, (upd q 0 1), f, dy) else (if (sX8_in (y.toInt64) (-400) 400) = 0 then (0, (upd q 0 2), f, dy) else (sX8_goods_z_1 q tx f ft dy kp ik jb n x y cc (sX8_remember (upd q 0 0) tx f ft dy kp ik jb cc))))
def sX8_run_z_2 (q : Nat → Int32) (tx : Nat → Int32) (f : Nat → Int32) (ft : Nat → Int32) (dy : Nat → Int32) (kp : Nat → Int32) (ik : Nat → Int32) (jb : Nat → Int32) (n : Nat) (x : Int32) (cc : Nat) (z_1 : (Nat → Int32) × (Nat → Int32)) (z_2 : Int32 × (Nat → Int32) × (Nat → Int32) × (Nat → Int32)) : Int32 × (Nat → Int32) × (Nat → Int32) × (Nat → Int32) × (Nat → Int32) :=
  (z_2.1, z_2.2.1, z_2.2.2.2, z_1.2, z_2.2.2.1)
def sX8_run_z_1 (q : Nat → Int32) (tx : Nat → Int32) (f : Nat → Int32) (ft : Nat → Int32) (dy : Nat → Int32) (kp : Nat → Int32) (ik : Nat → Int32) (jb : Nat → Int32) (n : Nat) (x : Int32) (cc : Nat) (z_1 : (Nat → Int32) × (Nat → Int32)) : Int32 × (Nat → Int32) × (Nat → Int32) × (Nat → Int32) × (Nat → Int32) :=
  (sX8_run_z_2 q tx f ft dy kp ik jb n x cc z_1 (sX8_runOn z_1.1 jb f x n))
def sX8_run (q : Nat → Int32) (tx : Nat → Int32) (f : Nat → Int32) (ft : Nat → Int32) (dy : Nat → Int32) (kp : Nat → Int32) (ik : Nat → Int32) (jb : Nat → Int32) (n : Nat) (x : Int32) (cc : Nat) : Int32 × (Nat → Int32) × (Nat → Int32) × (Nat → Int32) × (Nat → Int32) :=
  (if (sX8_in (x.toInt64) 1 60) = 0 then (0, (upd q 0 1), f, dy, jb) else (sX8_run_z_1 q tx f ft dy kp ik jb n x cc (sX8_remember (upd q 0 0) tx f ft dy kp ik jb cc)))
def sX8_set_z_1 (q : Nat → Int32) (tx : Nat → Int32) (f : Nat → Int32) (ft : Nat → Int32) (dy : Nat → Int32) (kp : Nat → Int32) (ik : Nat → Int32) (jb : Nat → Int32) (x : Int32) (y : Int32) (cc : Nat) (z_1 : (Nat → Int32) × (Nat → Int32)) : Int32 × (Nat → Int32) × (Nat → Int32) × (Nat → Int32) :=
  ((f (10 + x.toNatClampNeg)), z_1.1, (upd f (10 + x.toNatClampNeg) y), z_1.2)
def sX8_set (q : Nat → Int32) (tx : Nat → Int32) (f : Nat → Int32) (ft : Nat → Int32) (dy : Nat → Int32) (kp : Nat → Int32) (ik : Nat → Int32) (jb : Nat → Int32) (x : Int32) (y : Int32) (cc : Nat) : Int32 × (Nat → Int32) × (Nat → Int32) × (Nat → Int32) :=
  (if (sX8_isSetting x y) = 0 then (0, (upd q 0 1), f, dy) else (sX8_set_z_1 q tx f ft dy kp ik jb x y cc (sX8_remember (upd q 0 0) tx f ft dy kp ik jb cc)))
def sX8_undo_z_1 (q : Nat → Int32) (tx : Nat → Int32) (f : Nat → Int32) (ft : Nat → Int32) (dy : Nat → Int32) (kp : Nat → Int32) (ik : Nat → Int32) (jb : Nat → Int32) (cc : Nat) (z_1 : (Nat → Int32)) : Int32 × (Nat → Int32) × (Nat → Int32) :=
  ((nI (cc - 1)), (upd (upd q 0 0) 6 (nI (cc - 1))), z_1)
def sX8_undo (q : Nat → Int32) (tx : Nat → Int32) (f : Nat → Int32) (ft : Nat → Int32) (dy : Nat → Int32) (kp : Nat → Int32) (ik : Nat → Int32) (jb : Nat → Int32) (cc : Nat) : Int32 × (Nat → Int32) × (Nat → Int32) :=
  (if (q 6) = 0 then (0, (upd q 0 1), f) else (sX8_undo_z_1 q tx f ft dy kp ik jb cc (sX8_copyState (64 * (cc - 1)) 0 dy f)))
def sX8_spare (q : Nat → Int32) (tx : Nat → Int32) (f : Nat → Int32) (ft : Nat → Int32) (dy : Nat → Int32) (kp : Nat → Int32) (ik : Nat → Int32) (jb : Nat → Int32) : Int32 × (Nat → Int32) :=
  (if 0 ≤ (((f 10) - (f 2)) - ((f 12) * (sX8_minutesLeft f))) then (((((f 10) - (f 2)) - ((f 12) * (sX8_minutesLeft f))) / (sX8_minutesLeft f)), (upd q 0 0)) else ((-1), (upd q 0 0)))

theorem rn_00 {q jb f : Nat → Int32} {m0 : Int32} {n : Nat} (h6 : n ≤ 6) : ∀ (d i : Nat) (q1 jb1 f1 : Nat → Int32), (lp_X8_runOn_7 q jb f m0 n d i q1 jb1 f1).2.2.2 0 = f1 0
  | 0, _, _, _, _ => rfl
  | d + 1, i, q1, jb1, f1 => by
    show (lp_X8_runOn_7 q jb f m0 n d (i + 1) (sX8_minuteOn q1 jb1 f1 n).1 (sX8_minuteOn q1 jb1 f1 n).2.1 (sX8_minuteOn q1 jb1 f1 n).2.2).2.2.2 0 = f1 0
    rw [rn_00 h6 d (i + 1), mn_0 h6]
theorem rn_0 {n : Nat} (h6 : n ≤ 6) (q jb f : Nat → Int32) (m0 : Int32) : (sX8_runOn q jb f m0 n).2.2.2 0 = f 0 := rn_00 h6 _ 0 q jb f
theorem do_00 {f : Nat → Int32} {n i0 : Nat} {o x : Int32} {z : Nat → Int32} : ∀ (d i : Nat) (t : Int32), (lp_X8_doorOn_20 f n i0 o x z d i t).2 = z
  | 0, _, _ => rfl
  | d + 1, i, t => do_00 d (i + 1) _
theorem do_2 (f : Nat → Int32) (n i0 : Nat) (o : Int32) : (sX8_doorOn f n i0 o).2 = sX8_lay f i0 4 (if o = 0 then 0 else 1) := do_00 n 0 0
theorem do_0 (f : Nat → Int32) (n i0 : Nat) (o : Int32) : (sX8_doorOn f n i0 o).2 0 = f 0 := by
  rw [do_2]; exact lay_0
theorem go_0 (f : Nat → Int32) (i : Nat) (v : Int32) : (sX8_goodsOn f i v).2 0 = f 0 := by
  show sX8_lay f i 3 v 0 = f 0
  exact lay_0
def lp_X8_warmIn_40 (q : Nat → Int32) (tx : Nat → Int32) (f : Nat → Int32) (ft : Nat → Int32) (dy : Nat → Int32) (kp : Nat → Int32) (ik : Nat → Int32) (jb : Nat → Int32) (n : Nat) (x : Int32) (z_1 : (Nat → Int32)) : Nat → Nat → (Nat → Int32) → (Nat → Int32) → (Nat → Int32) → Int32 × (Nat → Int32) × (Nat → Int32) × (Nat → Int32)
  | 0, i, q1, jb1, ft1 => ((-1), q1, ft1, jb1)
  | d + 1, i, q1, jb1, ft1 => (if (sX8_isWarm ft1 x.toNatClampNeg) = 0 then ((fun (z_2 : (Nat → Int32) × (Nat → Int32) × (Nat → Int32)) => (lp_X8_warmIn_40 q tx f ft dy kp ik jb n x z_1 d (i + 1) z_2.1 z_2.2.1 z_2.2.2)) (sX8_minuteOn q1 jb1 ft1 n)) else ((nI i), q1, ft1, jb1))
def sX8_warmIn_z_1 (q : Nat → Int32) (tx : Nat → Int32) (f : Nat → Int32) (ft : Nat → Int32) (dy : Nat → Int32) (kp : Nat → Int32) (ik : Nat → Int32) (jb : Nat → Int32) (n : Nat) (x : Int32) (z_1 : (Nat → Int32)) : Int32 × (Nat → Int32) × (Nat → Int32) × (Nat → Int32) :=
  (lp_X8_warmIn_40 q tx f ft dy kp ik jb n x z_1 241 0 (upd q 0 0) jb z_1)
def sX8_warmIn (q : Nat → Int32) (tx : Nat → Int32) (f : Nat → Int32) (ft : Nat → Int32) (dy : Nat → Int32) (kp : Nat → Int32) (ik : Nat → Int32) (jb : Nat → Int32) (n : Nat) (x : Int32) : Int32 × (Nat → Int32) × (Nat → Int32) × (Nat → Int32) :=
  (if (sX8_isRoom f x) = 0 then (0, (upd q 0 1), ft, jb) else (sX8_warmIn_z_1 q tx f ft dy kp ik jb n x (sX8_copyState 0 0 f ft)))
def lp_X8_warmest_4 (f : Nat → Int32) (n : Nat) : Nat → Nat → Option Nat → Option Nat
  | 0, i, w => w
  | d + 1, i, w => (oe w (lp_X8_warmest_4 f n d (i + 1) (some i)) (fun k_1 => (if ((((sX8_of f i 3) - (sX8_of f i 2)) - (sX8_of f k_1 3)) + (sX8_of f k_1 2)) ≤ 0 then (lp_X8_warmest_4 f n d (i + 1) (some k_1)) else (lp_X8_warmest_4 f n d (i + 1) (some i)))))
def sX8_warmest (f : Nat → Int32) (n : Nat) : Option Nat :=
  (lp_X8_warmest_4 f n n 0 none)
def sX8_coming_z_2 (q : Nat → Int32) (tx : Nat → Int32) (f : Nat → Int32) (ft : Nat → Int32) (dy : Nat → Int32) (kp : Nat → Int32) (ik : Nat → Int32) (jb : Nat → Int32) (n : Nat) (x : Int32) (y : Int32) (z_1 : (Nat → Int32)) (z_2 : Int32 × (Nat → Int32) × (Nat → Int32) × (Nat → Int32)) : Int32 × (Nat → Int32) × (Nat → Int32) × (Nat → Int32) :=
  (if y = 0 then (z_2.1, z_2.2.1, z_2.2.2.2, z_2.2.2.1) else (if y = 1 then (((z_2.2.2.2 3) - (f 3)), z_2.2.1, z_2.2.2.2, z_2.2.2.1) else (if y = 2 then (((z_2.2.2.2 6) - (f 6)), z_2.2.1, z_2.2.2.2, z_2.2.2.1) else (if y = 3 then (((z_2.2.2.2 7) - (f 7)), z_2.2.1, z_2.2.2.2, z_2.2.2.1) else ((ob (sX8_warmest z_2.2.2.2 n)), z_2.2.1, z_2.2.2.2, z_2.2.2.1)))))
def sX8_coming_z_1 (q : Nat → Int32) (tx : Nat → Int32) (f : Nat → Int32) (ft : Nat → Int32) (dy : Nat → Int32) (kp : Nat → Int32) (ik : Nat → Int32) (jb : Nat → Int32) (n : Nat) (x : Int32) (y : Int32) (z_1 : (Nat → Int32)) : Int32 × (Nat → Int32) × (Nat → Int32) × (Nat → Int32) :=
  (sX8_coming_z_2 q tx f ft dy kp ik jb n x y z_1 (sX8_runOn (upd q 0 0) jb z_1 x n))
def sX8_coming (q : Nat → Int32) (tx : Nat → Int32) (f : Nat → Int32) (ft : Nat → Int32) (dy : Nat → Int32) (kp : Nat → Int32) (ik : Nat → Int32) (jb : Nat → Int32) (n : Nat) (x : Int32) (y : Int32) : Int32 × (Nat → Int32) × (Nat → Int32) × (Nat → Int32) :=
  (if (sX8_in (x.toInt64) 1 240) = 0 then (0, (upd q 0 1), ft, jb) else (if (sX8_in (y.toInt64) 0 4) = 0 then (0, (upd q 0 1), ft, jb) else (sX8_coming_z_1 q tx f ft dy kp ik jb n x y (sX8_copyState 0 0 f ft))))
def lp_X8_leastLimit_28 (q : Nat → Int32) (tx : Nat → Int32) (f : Nat → Int32) (ft : Nat → Int32) (dy : Nat → Int32) (kp : Nat → Int32) (ik : Nat → Int32) (jb : Nat → Int32) (n : Nat) (x : Int32) : Nat → Nat → (Nat → Int32) → (Nat → Int32) → (Nat → Int32) → Int32 × (Nat → Int32) × (Nat → Int32) × (Nat → Int32)
  | 0, i, q1, jb1, ft1 => ((-1), q1, ft1, jb1)
  | d + 1, i, q1, jb1, ft1 => ((fun (z_1 : (Nat → Int32)) => ((fun (z_2 : Int32 × (Nat → Int32) × (Nat → Int32) × (Nat → Int32)) => (if (z_2.2.2.2 3) = (f 3) then ((nI (100 * i)), z_2.2.1, z_2.2.2.2, z_2.2.2.1) else (lp_X8_leastLimit_28 q tx f ft dy kp ik jb n x d (i + 1) z_2.2.1 z_2.2.2.1 z_2.2.2.2))) (sX8_runOn q1 jb1 (upd z_1 10 (nI (100 * i))) x n))) (sX8_copyState 0 0 f ft1))
def sX8_leastLimit (q : Nat → Int32) (tx : Nat → Int32) (f : Nat → Int32) (ft : Nat → Int32) (dy : Nat → Int32) (kp : Nat → Int32) (ik : Nat → Int32) (jb : Nat → Int32) (n : Nat) (x : Int32) : Int32 × (Nat → Int32) × (Nat → Int32) × (Nat → Int32) :=
  (if (sX8_in (x.toInt64) 1 60) = 0 then (0, (upd q 0 1), ft, jb) else (lp_X8_leastLimit_28 q tx f ft dy kp ik jb n x 100 0 (upd q 0 0) jb ft))
def lp_X8_bestShut_11 (q : Nat → Int32) (tx : Nat → Int32) (f : Nat → Int32) (ft : Nat → Int32) (dy : Nat → Int32) (kp : Nat → Int32) (ik : Nat → Int32) (jb : Nat → Int32) (n : Nat) : Nat → Nat → Option Nat → Int32 → (Nat → Int32) → (Nat → Int32) → (Nat → Int32) → Option Nat × (Nat → Int32) × (Nat → Int32) × (Nat → Int32)
  | 0, i, w, lo, q1, jb1, ft1 => (w, q1, ft1, jb1)
  | d + 1, i, w, lo, q1, jb1, ft1 => (if (sX8_of f i 4) = 1 then ((fun (z_1 : (Nat → Int32)) => ((fun (z_2 : (Nat → Int32)) => ((fun (z_3 : Int32 × (Nat → Int32) × (Nat → Int32) × (Nat → Int32)) => (oe w (lp_X8_bestShut_11 q tx f ft dy kp ik jb n d (i + 1) (some i) ((sX8_of z_3.2.2.2 i 3) - (sX8_of z_3.2.2.2 i 2)) z_3.2.1 z_3.2.2.1 z_3.2.2.2) (fun k_4 => (if lo ≤ ((sX8_of z_3.2.2.2 i 3) - (sX8_of z_3.2.2.2 i 2)) then (lp_X8_bestShut_11 q tx f ft dy kp ik jb n d (i + 1) (some k_4) lo z_3.2.1 z_3.2.2.1 z_3.2.2.2) else (lp_X8_bestShut_11 q tx f ft dy kp ik jb n d (i + 1) (some i) ((sX8_of z_3.2.2.2 i 3) - (sX8_of z_3.2.2.2 i 2)) z_3.2.1 z_3.2.2.1 z_3.2.2.2))))) (sX8_runOn q1 jb1 z_2 15 n))) (sX8_lay z_1 i 4 0))) (sX8_copyState 0 0 f ft1)) else (lp_X8_bestShut_11 q tx f ft dy kp ik jb n d (i + 1) w lo q1 jb1 ft1))
def sX8_bestShut (q : Nat → Int32) (tx : Nat → Int32) (f : Nat → Int32) (ft : Nat → Int32) (dy : Nat → Int32) (kp : Nat → Int32) (ik : Nat → Int32) (jb : Nat → Int32) (n : Nat) : Option Nat × (Nat → Int32) × (Nat → Int32) × (Nat → Int32) :=
  (lp_X8_bestShut_11 q tx f ft dy kp ik jb n n 0 none 0 (upd q 0 0) jb ft)
def sX8_doesIt_z_1 (q : Nat → Int32) (tx : Nat → Int32) (f : Nat → Int32) (ft : Nat → Int32) (dy : Nat → Int32) (kp : Nat → Int32) (ik : Nat → Int32) (jb : Nat → Int32) (n : Nat) (i : Nat) (w : Int32) (z_1 : (Nat → Int32) × (Nat → Int32)) : Int32 × (Nat → Int32) × (Nat → Int32) :=
  (if (z_1.2 i) = w then (1, z_1.1, z_1.2) else (0, z_1.1, z_1.2))
def sX8_doesIt (q : Nat → Int32) (tx : Nat → Int32) (f : Nat → Int32) (ft : Nat → Int32) (dy : Nat → Int32) (kp : Nat → Int32) (ik : Nat → Int32) (jb : Nat → Int32) (n : Nat) (i : Nat) (w : Int32) : Int32 × (Nat → Int32) × (Nat → Int32) :=
  (sX8_doesIt_z_1 q tx f ft dy kp ik jb n i w (sX8_find q jb ft n))
def sX8_save_z_1 (q : Nat → Int32) (tx : Nat → Int32) (f : Nat → Int32) (ft : Nat → Int32) (dy : Nat → Int32) (kp : Nat → Int32) (ik : Nat → Int32) (jb : Nat → Int32) (x : Int32) (z_1 : (Nat → Int32)) : Int32 × (Nat → Int32) × (Nat → Int32) × (Nat → Int32) :=
  ((f 1), (upd q 0 0), z_1, (upd ik x.toNatClampNeg 1))
def sX8_save (q : Nat → Int32) (tx : Nat → Int32) (f : Nat → Int32) (ft : Nat → Int32) (dy : Nat → Int32) (kp : Nat → Int32) (ik : Nat → Int32) (jb : Nat → Int32) (x : Int32) : Int32 × (Nat → Int32) × (Nat → Int32) × (Nat → Int32) :=
  (if (sX8_in (x.toInt64) 0 1) = 0 then (0, (upd q 0 1), kp, ik) else (sX8_save_z_1 q tx f ft dy kp ik jb x (sX8_copyState 0 (64 * x.toNatClampNeg) f kp)))
def sX8_restore_z_1 (q : Nat → Int32) (tx : Nat → Int32) (f : Nat → Int32) (ft : Nat → Int32) (dy : Nat → Int32) (kp : Nat → Int32) (ik : Nat → Int32) (jb : Nat → Int32) (x : Int32) (z_1 : (Nat → Int32)) : Int32 × (Nat → Int32) × (Nat → Int32) :=
  ((z_1 1), (upd (upd q 0 0) 6 0), z_1)
def sX8_restore (q : Nat → Int32) (tx : Nat → Int32) (f : Nat → Int32) (ft : Nat → Int32) (dy : Nat → Int32) (kp : Nat → Int32) (ik : Nat → Int32) (jb : Nat → Int32) (x : Int32) : Int32 × (Nat → Int32) × (Nat → Int32) :=
  (if (sX8_in (x.toInt64) 0 1) = 0 then (0, (upd q 0 1), f) else (if (ik x.toNatClampNeg) = 0 then (0, (upd q 0 2), f) else (sX8_restore_z_1 q tx f ft dy kp ik jb x (sX8_copyState (64 * x.toNatClampNeg) 0 kp f))))

theorem tu_m {x : Int32} (h : 0 ≤ x.toInt) : 1 + (x / 8 - x / 8 / 15 * 15) = nI (1 + (x / 8 - x / 8 / 15 * 15)).toNatClampNeg := by
  refine nn_e ?_
  have h2 := x.toInt_lt
  have e8 : (8 : Int32).toInt = 8 := rfl
  have e1 : (1 : Int32).toInt = 1 := rfl
  have hq : (x / 8).toInt = x.toInt.tdiv 8 := by
    rw [Int32.toInt_div, e8, Int.bmod_eq_of_le]
    · have := Int.tdiv_nonneg (a := x.toInt) (b := 8) h (by decide); omega
    · have := Int.tdiv_le_self (a := x.toInt) 8 h; omega
  obtain ⟨h3, h4, h5⟩ := td15 (x.toInt.tdiv 8)
  have h6 := (ts15 (x.toInt.tdiv 8)).1 (Int.tdiv_nonneg h (by decide))
  rw [Int32.toInt_add, rem15, hq, e1, Int.bmod_eq_of_le] <;> omega
def sX8_command_j378 (q : Nat → Int32) (tx : Nat → Int32) (f : Nat → Int32) (ft : Nat → Int32) (dy : Nat → Int32) (kp : Nat → Int32) (ik : Nat → Int32) (jb : Nat → Int32) (x : Int32) (y : Int32) (n : Nat) (x_1 : Int32) (x_8 : Int32) : Int32 × (Nat → Int32) × (Nat → Int32) × (Nat → Int32) :=
  (if (sX8_isWarm ft ((y / 1000).toNatClampNeg)) = x_8 then (1, q, ft, jb) else (0, q, ft, jb))
def sX8_command_z_7 (q : Nat → Int32) (tx : Nat → Int32) (f : Nat → Int32) (ft : Nat → Int32) (dy : Nat → Int32) (kp : Nat → Int32) (ik : Nat → Int32) (jb : Nat → Int32) (x : Int32) (y : Int32) (n : Nat) (x_1 : Int32) (z_7 : Int32 × (Nat → Int32) × (Nat → Int32)) : Int32 × (Nat → Int32) × (Nat → Int32) × (Nat → Int32) :=
  (if z_7.1 = 0 then (0, z_7.2.1, ft, z_7.2.2) else (1, z_7.2.1, ft, z_7.2.2))
def sX8_command_z_6 (q : Nat → Int32) (tx : Nat → Int32) (f : Nat → Int32) (ft : Nat → Int32) (dy : Nat → Int32) (kp : Nat → Int32) (ik : Nat → Int32) (jb : Nat → Int32) (x : Int32) (y : Int32) (n : Nat) (x_1 : Int32) (z_6 : Int32 × (Nat → Int32)) : Int32 × (Nat → Int32) × (Nat → Int32) × (Nat → Int32) :=
  (if z_6.1 < (-400) then (0, q, z_6.2, jb) else (1, q, z_6.2, jb))
def sX8_command_z_5 (q : Nat → Int32) (tx : Nat → Int32) (f : Nat → Int32) (ft : Nat → Int32) (dy : Nat → Int32) (kp : Nat → Int32) (ik : Nat → Int32) (jb : Nat → Int32) (x : Int32) (y : Int32) (n : Nat) (x_1 : Int32) (z_5 : Int32 × (Nat → Int32) × (Nat → Int32) × (Nat → Int32)) : Int32 × (Nat → Int32) × (Nat → Int32) × (Nat → Int32) :=
  (if z_5.1 < 0 then (0, z_5.2.1, z_5.2.2.2, z_5.2.2.1) else (1, z_5.2.1, z_5.2.2.2, z_5.2.2.1))
def sX8_command_z_4 (q : Nat → Int32) (tx : Nat → Int32) (f : Nat → Int32) (ft : Nat → Int32) (dy : Nat → Int32) (kp : Nat → Int32) (ik : Nat → Int32) (jb : Nat → Int32) (x : Int32) (y : Int32) (n : Nat) (x_1 : Int32) (z_4 : Int32 × (Nat → Int32) × (Nat → Int32) × (Nat → Int32)) : Int32 × (Nat → Int32) × (Nat → Int32) × (Nat → Int32) :=
  (if z_4.1 < 0 then (0, z_4.2.1, z_4.2.2.2, z_4.2.2.1) else (1, z_4.2.1, z_4.2.2.2, z_4.2.2.1))
def sX8_command_z_3 (q : Nat → Int32) (tx : Nat → Int32) (f : Nat → Int32) (ft : Nat → Int32) (dy : Nat → Int32) (kp : Nat → Int32) (ik : Nat → Int32) (jb : Nat → Int32) (x : Int32) (y : Int32) (n : Nat) (x_1 : Int32) (x_2 : Int32) (z_3 : Int32 × (Nat → Int32)) : Int32 × (Nat → Int32) × (Nat → Int32) × (Nat → Int32) :=
  (if z_3.1 < 0 then (0, q, z_3.2, jb) else (1, q, z_3.2, jb))
def sX8_command_j142 (q : Nat → Int32) (tx : Nat → Int32) (f : Nat → Int32) (ft : Nat → Int32) (dy : Nat → Int32) (kp : Nat → Int32) (ik : Nat → Int32) (jb : Nat → Int32) (x : Int32) (y : Int32) (n : Nat) (x_1 : Int32) (x_2 : Int32) : Int32 × (Nat → Int32) × (Nat → Int32) × (Nat → Int32) :=
  (sX8_command_z_3 q tx f ft dy kp ik jb x y n x_1 x_2 (sX8_doorOn ft n ((y / 1000).toNatClampNeg) x_2))
def sX8_command_j43 (q : Nat → Int32) (tx : Nat → Int32) (f : Nat → Int32) (ft : Nat → Int32) (dy : Nat → Int32) (kp : Nat → Int32) (ik : Nat → Int32) (jb : Nat → Int32) (x : Int32) (y : Int32) (n : Nat) (x_1 : Int32) : Int32 × (Nat → Int32) × (Nat → Int32) × (Nat → Int32) :=
  (if x = 1 then (if (sX8_isRoom ft (y / 1000)) = 0 then (0, q, ft, jb) else (if 2 ≤ ((y / 100) - (y / 100) / 10 * 10) then (0, q, ft, jb) else (if (y - y / 100 * 100) = 0 then (sX8_command_j142 q tx f ft dy kp ik jb x y n x_1 (if ((y / 100) - (y / 100) / 10 * 10) = 1 then 1 else 0)) else (0, q, ft, jb)))) else (if x = 2 then (if (sX8_in (y.toInt64) 1 60) = 0 then (0, q, ft, jb) else (sX8_command_z_4 q tx f ft dy kp ik jb x y n x_1 (sX8_runOn q jb ft y n))) else (if x = 3 then (if y = 0 then (sX8_command_z_5 q tx f ft dy kp ik jb x y n x_1 (sX8_runOn q jb ft 15 n)) else (0, q, ft, jb)) else (if x = 4 then (if x_1 = 0 then (0, q, ft, jb) else (if (sX8_isSetting (y / 1000) ((y / 10) - (y / 10) / 100 * 100)) = 0 then (0, q, ft, jb) else (1, q, (upd ft (10 + ((y / 1000).toNatClampNeg)) ((y / 10) - (y / 10) / 100 * 100)), jb))) else (if x = 5 then (if (sX8_isRoom ft (y / 1000)) = 0 then (0, q, ft, jb) else (if x_1 = 0 then (0, q, ft, jb) else (sX8_command_z_6 q tx f ft dy kp ik jb x y n x_1 (sX8_goodsOn ft ((y / 1000).toNatClampNeg) ((y / 10) - (y / 10) / 100 * 100))))) else (if x = 6 then (if (sX8_isRoom ft (y / 1000)) = 0 then (0, q, ft, jb) else (if x_1 = 0 then (0, q, ft, jb) else (if ((y / 10) - (y / 10) / 100 * 100) < (sX8_of ft ((y / 1000).toNatClampNeg) 5) then (0, q, ft, jb) else (1, q, ft, jb)))) else (if x = 7 then (if (sX8_isRoom ft (y / 1000)) = 0 then (0, q, ft, jb) else (if 8 ≤ (y - y / 1000 * 1000) then (0, q, ft, jb) else (sX8_command_z_7 q tx f ft dy kp ik jb x y n x_1 (sX8_doesIt q tx f ft dy kp ik jb n ((y / 1000).toNatClampNeg) (y - y / 1000 * 1000))))) else (if x = 8 then (if 100 ≤ y then (0, q, ft, jb) else (if y < (ft 3) then (0, q, ft, jb) else (1, q, ft, jb))) else (if x = 9 then (if (sX8_isRoom ft (y / 1000)) = 0 then (0, q, ft, jb) else (if 2 ≤ (y - y / 1000 * 1000) then (0, q, ft, jb) else (sX8_command_j378 q tx f ft dy kp ik jb x y n x_1 (if (y - y / 1000 * 1000) = 1 then 1 else 0)))) else (0, q, ft, jb))))))))))
def sX8_command (q : Nat → Int32) (tx : Nat → Int32) (f : Nat → Int32) (ft : Nat → Int32) (dy : Nat → Int32) (kp : Nat → Int32) (ik : Nat → Int32) (jb : Nat → Int32) (x : Int32) (y : Int32) (n : Nat) : Int32 × (Nat → Int32) × (Nat → Int32) × (Nat → Int32) :=
  (sX8_command_j43 q tx f ft dy kp ik jb x y n (if (y - y / 10 * 10) = 0 then 1 else 0))
def sX8_turn_z_1 (q : Nat → Int32) (tx : Nat → Int32) (f : Nat → Int32) (ft : Nat → Int32) (dy : Nat → Int32) (kp : Nat → Int32) (ik : Nat → Int32) (jb : Nat → Int32) (x : Int32) (n : Nat) (z_1 : Int32 × (Nat → Int32) × (Nat → Int32) × (Nat → Int32)) : (Nat → Int32) × (Nat → Int32) × (Nat → Int32) :=
  (z_1.2.1, z_1.2.2.2, z_1.2.2.1)
def sX8_turn_z_2 (q : Nat → Int32) (tx : Nat → Int32) (f : Nat → Int32) (ft : Nat → Int32) (dy : Nat → Int32) (kp : Nat → Int32) (ik : Nat → Int32) (jb : Nat → Int32) (x : Int32) (n : Nat) (z_2 : Int32 × (Nat → Int32)) : (Nat → Int32) × (Nat → Int32) × (Nat → Int32) :=
  (q, z_2.2, jb)
def sX8_turn_z_4 (q : Nat → Int32) (tx : Nat → Int32) (f : Nat → Int32) (ft : Nat → Int32) (dy : Nat → Int32) (kp : Nat → Int32) (ik : Nat → Int32) (jb : Nat → Int32) (x : Int32) (n : Nat) (x_3 : Int32) (z_4 : Int32 × (Nat → Int32)) : (Nat → Int32) × (Nat → Int32) × (Nat → Int32) :=
  (q, z_4.2, jb)
def sX8_turn_j52 (q : Nat → Int32) (tx : Nat → Int32) (f : Nat → Int32) (ft : Nat → Int32) (dy : Nat → Int32) (kp : Nat → Int32) (ik : Nat → Int32) (jb : Nat → Int32) (x : Int32) (n : Nat) (x_3 : Int32) : (Nat → Int32) × (Nat → Int32) × (Nat → Int32) :=
  (sX8_turn_z_4 q tx f ft dy kp ik jb x n x_3 (sX8_doorOn ft n ((x / 8 - x / 8 / 6 * 6).toNatClampNeg) x_3))
def sX8_turn (q : Nat → Int32) (tx : Nat → Int32) (f : Nat → Int32) (ft : Nat → Int32) (dy : Nat → Int32) (kp : Nat → Int32) (ik : Nat → Int32) (jb : Nat → Int32) (x : Int32) (n : Nat) : (Nat → Int32) × (Nat → Int32) × (Nat → Int32) :=
  (if 2 ≤ (x - x / 8 * 8) then (if (x - x / 8 * 8) = 2 then (if (sX8_isRoom ft ((x / 8) - (x / 8) / 6 * 6)) = 0 then (q, ft, jb) else (sX8_turn_z_2 q tx f ft dy kp ik jb x n (sX8_goodsOn ft ((x / 8 - x / 8 / 6 * 6).toNatClampNeg) ((((x / 8) / 8) - ((x / 8) / 8) / 401 * 401) - 200)))) else (if (x - x / 8 * 8) = 3 then (q, (upd ft 10 ((x / 8) - (x / 8) / 1000 * 1000)), jb) else (if (x - x / 8 * 8) = 4 then (q, (upd ft 14 (1 + ((x / 8) - (x / 8) / 100 * 100))), jb) else (sX8_turn_z_1 q tx f ft dy kp ik jb x n (sX8_runOn q jb ft (1 + ((x / 8) - (x / 8) / 15 * 15)) n))))) else (if (sX8_isRoom ft ((x / 8) - (x / 8) / 6 * 6)) = 0 then (q, ft, jb) else (sX8_turn_j52 q tx f ft dy kp ik jb x n (if (((x / 8) / 8) - ((x / 8) / 8) / 3 * 3) = 0 then 1 else 0))))

theorem zif {α : Type} {P : α → Prop} {c : Prop} [Decidable c] {a b : α} (h1 : P a) (h2 : P b) : P (if c then a else b) := by
  by_cases h : c
  · rw [if_pos h]; exact h1
  · rw [if_neg h]; exact h2
theorem cmd_0 {n : Nat} (h6 : n ≤ 6) (q tx f ft dy kp ik jb : Nat → Int32) (x : Int32) (y : Int32) : (sX8_command q tx f ft dy kp ik jb x y n).2.2.1 0 = ft 0 := by
  simp only [sX8_command, sX8_command_j378, sX8_command_z_7, sX8_command_z_6, sX8_command_z_5, sX8_command_z_4, sX8_command_z_3, sX8_command_j142, sX8_command_j43]
  (repeat' refine zif (P := fun z : Int32 × (Nat → Int32) × (Nat → Int32) × (Nat → Int32) => z.2.2.1 0 = ft 0) ?_ ?_) <;> first | rfl | exact pk_un (by omega) | exact rn_0 h6 q jb ft _ | exact rn_0 h6 q jb ft 15 | exact do_0 _ _ _ _ | exact go_0 _ _ _
theorem tu_0 {n : Nat} (h6 : n ≤ 6) (q tx f ft dy kp ik jb : Nat → Int32) (x : Int32) : (sX8_turn q tx f ft dy kp ik jb x n).2.1 0 = ft 0 := by
  simp only [sX8_turn, sX8_turn_z_1, sX8_turn_z_2, sX8_turn_z_4, sX8_turn_j52]
  (repeat' refine zif (P := fun z : (Nat → Int32) × (Nat → Int32) × (Nat → Int32) => z.2.1 0 = ft 0) ?_ ?_) <;> first | rfl | exact pk_un (by omega) | exact rn_0 h6 q jb ft _ | exact rn_0 h6 q jb ft 15 | exact do_0 _ _ _ _ | exact go_0 _ _ _
def P5 : Nat → Int64
  | 0 => 1
  | 1 => 100000
  | 2 => 10000000000
  | _ => 1000000000000000
theorem p5_s {al : Int64} {i : Nat} (h : al = P5 i) (hi : i < 3) : al * 100000 = P5 (i + 1) := by
  subst h
  match i, hi with
  | 0, _ => rfl
  | 1, _ => rfl
  | 2, _ => rfl
theorem p5_q {k : Nat} (hk : k < 3) : P5 (k + 1) / 100000 = P5 k := by
  match k, hk with
  | 0, _ => decide +kernel
  | 1, _ => decide +kernel
  | 2, _ => decide +kernel
theorem p5_d {al : Int64} {i m : Nat} (h : al = P5 (m - i)) (hi : i < m) (hm : m < 4) : al / 100000 = P5 (m - (i + 1)) := by
  subst h
  have : m - i = (m - (i + 1)) + 1 := by omega
  rw [this]
  exact p5_q (by omega)
theorem p5_n {al : Int64} {i m : Nat} (h : al = P5 (m - i)) (hi : i < m) (hm : m < 4) : ¬ al / 100000 = 0 := by
  rw [p5_d h hi hm]
  have : ∀ k, k < 3 → ¬ P5 k = 0 := by
    intro k hk
    match k, hk with
    | 0, _ => decide +kernel
    | 1, _ => decide +kernel
    | 2, _ => decide +kernel
  exact this _ (by omega)
theorem p5_y {al : Int64} {j : Nat} {y : Int32} (h : al = P5 j) (h3 : j ≤ 3) (h1 : j = 0 ∨ nI (j - 1) < y) (h2 : j = 3 ∨ y ≤ nI j) (hc : ¬ sX8_in y.toInt64 1 3 = 0) : al = P5 (y.toNatClampNeg - 0) := by
  obtain ⟨a1, a2⟩ := in_i (a := 1) (b := 3) hc rfl rfl
  obtain ⟨b1, b2⟩ := in_p (n := 3) hc rfl
  have e : y.toInt = (y.toNatClampNeg : Int) := by
    have : y.toNatClampNeg = y.toInt.toNat := rfl
    omega
  have e3 : ∀ k : Nat, k ≤ 3 → (nI k).toInt = k := fun k hk => nI_toInt (by omega)
  rw [Int32.lt_iff_toInt_lt, e3 (j - 1) (by omega)] at h1
  rw [Int32.le_iff_toInt_le, e3 j h3] at h2
  have : j = y.toNatClampNeg - 0 := by omega
  rw [h, this]
theorem sh_b (x : Int64) : (x.toUInt64 >>> (33 : UInt64)).toNat < 2 ^ 31 := by
  have e : (33 : UInt64).toNat % 64 = 33 := rfl
  rw [UInt64.toNat_shiftRight, e, Nat.shiftRight_eq_div_pow]
  have := x.toUInt64.toNat_lt
  omega
theorem sh_i {w : UInt64} (h : w.toNat < 2 ^ 31) : w.toInt64.toInt32.toInt = (w.toNat : Int) := by
  have e : w.toInt64.toInt = (w.toNat : Int) := by
    show w.toBitVec.toInt = ((w.toBitVec.toNat : Nat) : Int)
    have h2 : w.toBitVec.toNat < 2 ^ 31 := h
    rw [BitVec.toInt_eq_toNat_bmod, Int.bmod_eq_of_le] <;> omega
  rw [Int64.toInt_toInt32, e, Int.bmod_eq_of_le] <;> omega
def lcg (x : Int64) : Int64 := x * 6364136223846793005 + 1442695040888963407
theorem lcg_e (x : Int64) : x * 6364136223846793005 + 1442695040888963407 = lcg x := rfl
def hi31 (x : Int64) : Int32 := ((x.toUInt64 >>> ((33 : Int32).toInt64.toUInt64 &&& Int64.toUInt64 63)).toInt64).toInt32
theorem hi31_e (x : Int64) : ((x.toUInt64 >>> ((33 : Int32).toInt64.toUInt64 &&& Int64.toUInt64 63)).toInt64).toInt32 = hi31 x := rfl
theorem sh_nn (x : Int64) : 0 ≤ (hi31 x).toInt := by
  unfold hi31
  have e : ((33 : Int32).toInt64.toUInt64 &&& Int64.toUInt64 63) = 33 := by decide +kernel
  rw [e, sh_i (sh_b x)]
  omega
def lp_X8_runScript_86 (q : Nat → Int32) (tx : Nat → Int32) (f : Nat → Int32) (ft : Nat → Int32) (dy : Nat → Int32) (kp : Nat → Int32) (ik : Nat → Int32) (jb : Nat → Int32) (n : Nat) (y : Int32) (sc : Int64) (al : Int64) (j : Nat) (z_1 : (Nat → Int32)) : Nat → Nat → Int64 → (Nat → Int32) → (Nat → Int32) → (Nat → Int32) → Int32 × (Nat → Int32) × (Nat → Int32) × (Nat → Int32)
  | 0, i, al1, q1, jb1, ft1 => ((-1), q1, ft1, jb1)
  | d + 1, i, al1, q1, jb1, ft1 => ((fun (z_2 : Int32 × (Nat → Int32) × (Nat → Int32) × (Nat → Int32)) => (if z_2.1 = 0 then ((nI i), z_2.2.1, z_2.2.2.1, z_2.2.2.2) else (lp_X8_runScript_86 q tx f ft dy kp ik jb n y sc al j z_1 d (i + 1) (al1 / 100000) z_2.2.1 z_2.2.2.2 z_2.2.2.1))) (sX8_command q1 tx f ft1 dy kp ik jb1 ((((sc / (al1 / 100000)) - (sc / (al1 / 100000)) / 100000 * 100000).toInt32) / 10000) ((((sc / (al1 / 100000)) - (sc / (al1 / 100000)) / 100000 * 100000).toInt32) - (((sc / (al1 / 100000)) - (sc / (al1 / 100000)) / 100000 * 100000).toInt32) / 10000 * 10000) n))
def sX8_runScript_z_1 (q : Nat → Int32) (tx : Nat → Int32) (f : Nat → Int32) (ft : Nat → Int32) (dy : Nat → Int32) (kp : Nat → Int32) (ik : Nat → Int32) (jb : Nat → Int32) (n : Nat) (y : Int32) (sc : Int64) (al : Int64) (j : Nat) (z_1 : (Nat → Int32)) : Int32 × (Nat → Int32) × (Nat → Int32) × (Nat → Int32) :=
  (lp_X8_runScript_86 q tx f ft dy kp ik jb n y sc al j z_1 y.toNatClampNeg 0 al (upd q 0 0) jb z_1)
def sX8_runScript_x32 (q : Nat → Int32) (tx : Nat → Int32) (f : Nat → Int32) (ft : Nat → Int32) (dy : Nat → Int32) (kp : Nat → Int32) (ik : Nat → Int32) (jb : Nat → Int32) (n : Nat) (y : Int32) (sc : Int64) (al : Int64) (j : Nat) : Int32 × (Nat → Int32) × (Nat → Int32) × (Nat → Int32) :=
  (if (sX8_in (y.toInt64) 1 3) = 0 then (0, (upd q 0 1), ft, jb) else (if (sX8_in sc 0 (al - 1)) = 0 then (0, (upd q 0 1), ft, jb) else (sX8_runScript_z_1 q tx f ft dy kp ik jb n y sc al j (sX8_copyState 0 0 f ft))))
def sX8_runScript_j32 (q : Nat → Int32) (tx : Nat → Int32) (f : Nat → Int32) (ft : Nat → Int32) (dy : Nat → Int32) (kp : Nat → Int32) (ik : Nat → Int32) (jb : Nat → Int32) (n : Nat) (y : Int32) (sc : Int64) (i : Nat) (al : Int64) : Int32 × (Nat → Int32) × (Nat → Int32) × (Nat → Int32) :=
  (sX8_runScript_x32 q tx f ft dy kp ik jb n y sc al i)
def lp_X8_runScript_6 (q : Nat → Int32) (tx : Nat → Int32) (f : Nat → Int32) (ft : Nat → Int32) (dy : Nat → Int32) (kp : Nat → Int32) (ik : Nat → Int32) (jb : Nat → Int32) (n : Nat) (y : Int32) (sc : Int64) : Nat → Nat → Int64 → Int32 × (Nat → Int32) × (Nat → Int32) × (Nat → Int32)
  | 0, i, al => (sX8_runScript_j32 q tx f ft dy kp ik jb n y sc i al )
  | d + 1, i, al => (if y ≤ (nI i) then (sX8_runScript_x32 q tx f ft dy kp ik jb n y sc al i) else (lp_X8_runScript_6 q tx f ft dy kp ik jb n y sc d (i + 1) (al * 100000)))
def sX8_runScript (q : Nat → Int32) (tx : Nat → Int32) (f : Nat → Int32) (ft : Nat → Int32) (dy : Nat → Int32) (kp : Nat → Int32) (ik : Nat → Int32) (jb : Nat → Int32) (n : Nat) (y : Int32) (sc : Int64) : Int32 × (Nat → Int32) × (Nat → Int32) × (Nat → Int32) :=
  (lp_X8_runScript_6 q tx f ft dy kp ik jb n y sc 3 0 1)

def lp_X8_simulate_45 (q : Nat → Int32) (tx : Nat → Int32) (f : Nat → Int32) (ft : Nat → Int32) (dy : Nat → Int32) (kp : Nat → Int32) (ik : Nat → Int32) (jb : Nat → Int32) (n : Nat) (sd : Int64) (y : Int32) (lc : Int64 → Int64) (hi : Int64 → Int32) (z_1 : (Nat → Int32)) : Nat → Nat → Int64 → (Nat → Int32) → (Nat → Int32) → (Nat → Int32) → Int32 × (Nat → Int32) × (Nat → Int32) × (Nat → Int32)
  | 0, i, sd1, q1, jb1, ft1 => ((((1000 * ((ft1 3) - (f 3))) + (ft1 6)) - (f 6)), q1, ft1, jb1)
  | d + 1, i, sd1, q1, jb1, ft1 => ((fun (z_2 : (Nat → Int32) × (Nat → Int32) × (Nat → Int32)) => (lp_X8_simulate_45 q tx f ft dy kp ik jb n sd y lc hi z_1 d (i + 1) (lc sd1) z_2.1 z_2.2.2 z_2.2.1)) (sX8_turn q1 tx f ft1 dy kp ik jb1 (hi (lc sd1)) n))
def sX8_simulate_z_1 (q : Nat → Int32) (tx : Nat → Int32) (f : Nat → Int32) (ft : Nat → Int32) (dy : Nat → Int32) (kp : Nat → Int32) (ik : Nat → Int32) (jb : Nat → Int32) (n : Nat) (sd : Int64) (y : Int32) (lc : Int64 → Int64) (hi : Int64 → Int32) (z_1 : (Nat → Int32)) : Int32 × (Nat → Int32) × (Nat → Int32) × (Nat → Int32) :=
  (lp_X8_simulate_45 q tx f ft dy kp ik jb n sd y lc hi z_1 y.toNatClampNeg 0 sd (upd q 0 0) jb z_1)
def sX8_simulate (q : Nat → Int32) (tx : Nat → Int32) (f : Nat → Int32) (ft : Nat → Int32) (dy : Nat → Int32) (kp : Nat → Int32) (ik : Nat → Int32) (jb : Nat → Int32) (n : Nat) (sd : Int64) (y : Int32) (lc : Int64 → Int64) (hi : Int64 → Int32) : Int32 × (Nat → Int32) × (Nat → Int32) × (Nat → Int32) :=
  (if (sX8_in (y.toInt64) 1 60) = 0 then (0, (upd q 0 1), ft, jb) else (sX8_simulate_z_1 q tx f ft dy kp ik jb n sd y lc hi (sX8_copyState 0 0 f ft)))
