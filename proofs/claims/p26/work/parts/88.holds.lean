/-! PURE: what holds in each store -/
def TKs (f : RW) : Nat → Int32
  | 0 => 0
  | n + 1 => TKs f n + LDj f (JB f n) n
def FTs (f : RW) : Nat → Int32
  | 0 => 0
  | n + 1 => FTs f n + (if JB f n = 3 ∨ JB f n = 5 then 1 else 0)
def OPs (f : RW) : Nat → Int32
  | 0 => 0
  | n + 1 => OPs f n + f (16 + 8 * n + 4)
section P88
variable {f : RW} {B m : Nat}
theorem qa_1 (f : RW) : qAbout f 1 = f 1 := rfl
theorem qa_2 (f : RW) : qAbout f 2 = f 2 := rfl
theorem qa_3 (f : RW) : qAbout f 3 = sX8_minutesLeft f := rfl
theorem qa_4 (f : RW) : qAbout f 4 = f 3 := rfl
theorem qa_8 (f : RW) : qAbout f 8 = f 7 := rfl
theorem qs_0 (f : RW) : qSet f 0 = f 10 := rfl
theorem qs_1 (f : RW) : qSet f 1 = f 11 := rfl
theorem qs_2 (f : RW) : qSet f 2 = f 12 := rfl
theorem qs_3 (f : RW) : qSet f 3 = f 13 := rfl
theorem qs_4 (f : RW) : qSet f 4 = f 14 := rfl
theorem over_le (ok : OKs B m f) (okx : OKX m f) {i : Nat} (hi : i < m) : sX8_over f i ≤ 0 ↔ f (16 + 8 * i + 3) ≤ f (16 + 8 * i + 1) := by
  have hm := ok.1
  obtain ⟨⟨o1, o2⟩, -⟩ := okx i hi
  have o3 := (ok.2.2.2.2.2.2.2.2.2.2 i (by omega)).2.2.2.2.2 hi
  have e0 : (0 : Int32).toInt = 0 := rfl
  unfold sX8_over sX8_of
  rw [le_i, le_i, is_ (by omega) (by omega), e0]
  omega
/-- a room's numbers -/
theorem hx_base (ok : OKs B m f) (okx : OKX m f) {i : Nat} (hi : i < m) : ¬ f (16 + 8 * i + 2) ≤ f (16 + 8 * i + 1) ∧ ¬ f (16 + 8 * i + 3) < -400 ∧ ¬ 400 < f (16 + 8 * i + 3) ∧ ¬ f (16 + 8 * i + 5) < 0 ∧ ¬ 100 < f (16 + 8 * i + 5) ∧ ¬ f (16 + 8 * i + 6) < 0 := by
  have hm := ok.1
  obtain ⟨⟨o1, o2⟩, o7, -⟩ := okx i hi
  obtain ⟨-, -, -, o5, o6, o3⟩ := ok.2.2.2.2.2.2.2.2.2.2 i (by omega)
  have o3' := o3 hi
  have e0 : (0 : Int32).toInt = 0 := rfl
  have e1 : (-400 : Int32).toInt = -400 := rfl
  have e2 : (400 : Int32).toInt = 400 := rfl
  have e3 : (100 : Int32).toInt = 100 := rfl
  rw [le_i, lt_i, lt_i, lt_i, lt_i, lt_i, e0, e1, e2, e3]
  omega
theorem hx_case (hB : B ≤ 100000) (ok : OKs B m f) (okx : OKX m f) {i : Nat} (hi : i < m) :
    (JB f i = 0 ∧ ¬ f (16 + 8 * i + 6) ≤ 0 ∧ ¬ f (16 + 8 * i + 6) = 0) ∨
    (JB f i = 1 ∧ f (16 + 8 * i + 6) = 0 ∧ ¬ f (16 + 8 * i + 3) < f (16 + 8 * i + 2)) ∨
    (JB f i = 2 ∧ f (16 + 8 * i + 6) = 0 ∧ f (16 + 8 * i + 3) < f (16 + 8 * i + 2) ∧ f (16 + 8 * i + 5) = 100) ∨
    ((JB f i = 3 ∨ JB f i = 4) ∧ f (16 + 8 * i + 6) = 0 ∧ f (16 + 8 * i + 3) < f (16 + 8 * i + 2) ∧ ¬ f (16 + 8 * i + 5) = 100 ∧ ¬ f (16 + 8 * i + 3) ≤ f (16 + 8 * i + 1)) ∨
    ((JB f i = 5 ∨ JB f i = 6) ∧ f (16 + 8 * i + 6) = 0 ∧ f (16 + 8 * i + 3) < f (16 + 8 * i + 2) ∧ ¬ f (16 + 8 * i + 5) = 100 ∧ f (16 + 8 * i + 3) ≤ f (16 + 8 * i + 1) ∧ ¬ f (16 + 8 * i + 5) < f 14) ∨
    (JB f i = 7 ∧ f (16 + 8 * i + 6) = 0 ∧ f (16 + 8 * i + 3) < f (16 + 8 * i + 2) ∧ ¬ f (16 + 8 * i + 5) = 100 ∧ f (16 + 8 * i + 3) ≤ f (16 + 8 * i + 1) ∧ f (16 + 8 * i + 5) < f 14) := by
  have hm := ok.1
  obtain ⟨p1, -⟩ := plan_all hB ok zz zz
  have hp := p1 i hi
  have eJ : JB f i = (sX8_find zz zz f m).2 i := by unfold JB; rw [mF_of ok]
  rw [← eJ] at hp
  generalize JB f i = x at hp ⊢
  obtain ⟨-, o7, -⟩ := okx i hi
  have e0 : (0 : Int32).toInt = 0 := rfl
  have hov := over_le ok okx hi
  have hz : f (16 + 8 * i + 6) ≤ 0 → f (16 + 8 * i + 6) = 0 := fun h => by
    rw [le_i, e0] at h
    exact Int32.toInt_inj.mp (by rw [e0]; omega)
  have h8 : mst f i = 8 → f (16 + 8 * i + 6) = 0 ∧ f (16 + 8 * i + 3) < f (16 + 8 * i + 2) ∧ ¬ f (16 + 8 * i + 5) = 100 := fun h => by
    unfold mst sX8_isWarm sX8_of at h
    by_cases c : f (16 + 8 * i + 6) ≤ 0
    · rw [if_pos c, if_pos rfl] at h
      by_cases d : f (16 + 8 * i + 3) < f (16 + 8 * i + 2)
      · rw [if_pos d, if_pos rfl] at h
        by_cases g : f (16 + 8 * i + 5) = 100
        · rw [if_pos g] at h; exact absurd h (by decide)
        · exact ⟨hz c, d, g⟩
      · rw [if_neg d, if_neg (by decide)] at h; exact absurd h (by decide)
    · rw [if_neg c, if_neg (by decide)] at h; exact absurd h (by decide)
  rcases hp with ⟨h1, h2⟩ | ⟨h1, h2, h3⟩ | ⟨h1, h2, h3, h4⟩ | ⟨h1, h2, h3, h4⟩
  · unfold mst sX8_isWarm sX8_of at h1 h2
    by_cases c : f (16 + 8 * i + 6) ≤ 0
    · rw [if_pos c, if_pos rfl] at h1 h2
      by_cases d : f (16 + 8 * i + 3) < f (16 + 8 * i + 2)
      · rw [if_pos d, if_pos rfl] at h1 h2
        by_cases g : f (16 + 8 * i + 5) = 100
        · rw [if_pos g] at h1
          exact Or.inr (Or.inr (Or.inl ⟨h1, hz c, d, g⟩))
        · rw [if_neg g] at h2; exact absurd rfl h2
      · rw [if_neg d, if_neg (by decide)] at h1
        exact Or.inr (Or.inl ⟨h1, hz c, d⟩)
    · rw [if_neg c, if_neg (by decide)] at h1
      exact Or.inl ⟨h1, c, fun z => c (by rw [z]; exact Int32.le_refl 0)⟩
  · obtain ⟨a, b, d⟩ := h8 h1
    exact Or.inr (Or.inr (Or.inr (Or.inl ⟨h2, a, b, d, fun z => h3 (hov.mpr z)⟩)))
  · obtain ⟨a, b, d⟩ := h8 h1
    exact Or.inr (Or.inr (Or.inr (Or.inr (Or.inl ⟨h2, a, b, d, hov.mp h3, h4⟩))))
  · obtain ⟨a, b, d⟩ := h8 h1
    exact Or.inr (Or.inr (Or.inr (Or.inr (Or.inr ⟨h2, a, b, d, hov.mp h3, h4⟩))))
/-- the kilowatts, counted by the law, are those of the plan -/
theorem tks_eq (hB : B ≤ 100000) (ok : OKs B m f) : ∀ n, n ≤ m → (TKs f n).toInt = SU f (JB f) n ∧ 0 ≤ SU f (JB f) n ∧ SU f (JB f) n ≤ 50 * n := by
  intro n
  induction n with
  | zero => intro _; exact ⟨rfl, (show (0 : Int) ≤ 0 by decide), (show (0 : Int) ≤ 50 * ((0 : Nat) : Int) by decide)⟩
  | succ n ih =>
    intro hn
    have hm := ok.1
    obtain ⟨h1, h2, h3⟩ := ih (by omega)
    have hl := (ok.2.2.2.2.2.2.2.2.2.2 n (by omega)).1 (by omega)
    have h13 := ok.2.2.2.2.2.1
    have e0 : (0 : Int32).toInt = 0 := rfl
    have hb : 0 ≤ (LDj f (JB f n) n).toInt ∧ (LDj f (JB f n) n).toInt ≤ 50 := by
      unfold LDj
      split
      · omega
      · split
        · omega
        · rw [e0]; omega
    show (TKs f n + LDj f (JB f n) n).toInt = SU f (JB f) n + (LDj f (JB f n) n).toInt ∧ 0 ≤ SU f (JB f) n + (LDj f (JB f n) n).toInt ∧ SU f (JB f) n + (LDj f (JB f n) n).toInt ≤ 50 * ((n + 1 : Nat) : Int)
    rw [ia (by omega) (by omega), h1]
    refine ⟨rfl, by omega, by omega⟩
theorem fts_ex : ∀ n, ¬ FTs f n = 0 → ∃ j, j < n ∧ (JB f j = 3 ∨ JB f j = 5) := by
  intro n
  induction n with
  | zero => intro h; exact absurd rfl h
  | succ n ih =>
    intro h
    by_cases c : JB f n = 3 ∨ JB f n = 5
    · exact ⟨n, by omega, c⟩
    · have : FTs f (n + 1) = FTs f n := by
        show FTs f n + (if JB f n = 3 ∨ JB f n = 5 then 1 else 0) = FTs f n
        rw [if_neg c, Int32.add_zero]
      rw [this] at h
      obtain ⟨j, h1, h2⟩ := ih h
      exact ⟨j, by omega, h2⟩
/-- what runs by its own will fits -/
theorem h_fit (hB : B ≤ 90000) (ok : OKs B m f) (h : ¬ FTs f m = 0) : ¬ f 10 < f 2 + (TKs f m + f 12) * sX8_minutesLeft f := by
  have hm := ok.1
  obtain ⟨p1, p2, p3, p4, p5⟩ := plan_all (by omega) ok zz zz
  obtain ⟨t1, t2, t3⟩ := tks_eq (by omega) ok m (Nat.le_refl _)
  obtain ⟨ha1, ha2⟩ := ml_b (by omega) ok
  have eJ : JB f = (sX8_find zz zz f m).2 := by unfold JB; rw [mF_of ok]
  have hf := p5 (by rw [← eJ]; exact fts_ex m h)
  rw [p2, ← eJ, ← t1] at hf
  unfold FITS at hf
  obtain ⟨-, -, h10, -, h12, -, -, -, h1, h2, -⟩ := ok
  have e1 : (TKs f m + f 12).toInt = (TKs f m).toInt + (f 12).toInt := ia (by omega) (by omega)
  generalize hS : (TKs f m).toInt + (f 12).toInt = S at e1 hf
  have hS0 : 0 ≤ S := by omega
  have hS1 : S ≤ 399 := by omega
  generalize hA : (sX8_minutesLeft f).toInt = a at ha1 ha2 hf
  have hp0 : 0 ≤ S * a := Int.mul_nonneg hS0 (by omega)
  have hp1 : S * a ≤ 399 * 15 := Int.mul_le_mul hS1 ha2 (by omega) (by omega)
  have e2 : ((TKs f m + f 12) * sX8_minutesLeft f).toInt = S * a := by
    rw [im_] <;> rw [e1, hA] <;> omega
  rw [lt_i, ia (by omega) (by omega), e2]
  omega
theorem qspare_e (f : RW) : qSpare f = (if 0 ≤ f 10 - f 2 - f 12 * sX8_minutesLeft f then (f 10 - f 2 - f 12 * sX8_minutesLeft f) / sX8_minutesLeft f else -1) := by
  unfold qSpare sX8_spare
  split <;> rfl
theorem sp_facts (hB : B ≤ 90000) (ok : OKs B m f) : (qSpare f = -1 → ¬ f 2 + f 12 * sX8_minutesLeft f ≤ f 10) ∧ (¬ qSpare f = -1 → ¬ f 10 < f 2 + (qSpare f + f 12) * sX8_minutesLeft f ∧ ¬ f 2 + (qSpare f + 1 + f 12) * sX8_minutesLeft f ≤ f 10) := by
  obtain ⟨ha1, ha2⟩ := ml_b (by omega) ok
  obtain ⟨-, -, h10, -, h12, -, -, -, h1, h2, -⟩ := ok
  have e0 : (0 : Int32).toInt = 0 := rfl
  have en : (-1 : Int32).toInt = -1 := rfl
  have e1 : (1 : Int32).toInt = 1 := rfl
  rw [qspare_e]
  generalize hA : (sX8_minutesLeft f).toInt = a at ha1 ha2
  have hp0 : 0 ≤ (f 12).toInt * a := Int.mul_nonneg h12.1 (by omega)
  have hp1 : (f 12).toInt * a ≤ 99 * 15 := Int.mul_le_mul h12.2 ha2 (by omega) (by omega)
  have eP : (f 12 * sX8_minutesLeft f).toInt = (f 12).toInt * a := by
    rw [im_] <;> rw [hA] <;> omega
  generalize hP : (f 12).toInt * a = P at hp0 hp1 eP
  have eL : (f 10 - f 2).toInt = (f 10).toInt - (f 2).toInt := is_ (by omega) (by omega)
  have eD : (f 10 - f 2 - f 12 * sX8_minutesLeft f).toInt = (f 10).toInt - (f 2).toInt - P := by
    rw [is_ (by rw [eL, eP]; omega) (by rw [eL, eP]; omega), eL, eP]
  generalize f 10 - f 2 - f 12 * sX8_minutesLeft f = D at eD
  have eQ : (f 2 + f 12 * sX8_minutesLeft f).toInt = (f 2).toInt + P := by
    rw [ia] <;> rw [eP] <;> omega
  by_cases c : (0 : Int32) ≤ D
  · rw [if_pos c]
    rw [le_i, e0] at c
    have hd0 : 0 ≤ D.toInt.tdiv a := Int.tdiv_nonneg c (by omega)
    have hd1 : D.toInt.tdiv a ≤ D.toInt := Int.tdiv_le_self a c
    have eS : (D / sX8_minutesLeft f).toInt = D.toInt.tdiv a := by
      rw [Int32.toInt_div, hA, Int.bmod_eq_of_le] <;> omega
    have hdiv : D.toInt.tdiv a = D.toInt / a := Int.tdiv_eq_ediv_of_nonneg c
    have k1 : D.toInt / a * a ≤ D.toInt := Int.ediv_mul_le _ (by omega)
    have k2 : D.toInt < (D.toInt / a + 1) * a := Int.lt_ediv_add_one_mul_self _ (by omega)
    rw [hdiv] at eS hd0 hd1
    generalize D / sX8_minutesLeft f = s at eS
    generalize D.toInt / a = t at eS hd0 hd1 k1 k2
    have hne : ¬ s = -1 := fun z => by
      rw [z, en] at eS; omega
    refine ⟨fun z => absurd z hne, fun _ => ?_⟩
    have hta : t * a ≤ 9999 := by omega
    have x1 : (t + (f 12).toInt) * a = t * a + P := by rw [Int.add_mul, hP]
    have x2 : (t + 1 + (f 12).toInt) * a = (t + 1) * a + P := by rw [Int.add_mul, hP]
    have x3 : (t + 1) * a = t * a + a := by rw [Int.add_mul, Int.one_mul]
    have f1 : (s + f 12).toInt = t + (f 12).toInt := by rw [ia (by omega) (by omega), eS]
    have f2 : (s + 1).toInt = t + 1 := by rw [ia (by omega) (by omega), eS, e1]
    have f3 : (s + 1 + f 12).toInt = t + 1 + (f 12).toInt := by rw [ia (by omega) (by omega), f2]
    have q1 : ((s + f 12) * sX8_minutesLeft f).toInt = t * a + P := by
      rw [im_] <;> rw [f1, hA, x1] <;> omega
    have q2 : ((s + 1 + f 12) * sX8_minutesLeft f).toInt = t * a + a + P := by
      rw [im_] <;> rw [f3, hA, x2, x3] <;> omega
    constructor
    · rw [lt_i, ia (by omega) (by omega), q1]; omega
    · rw [le_i, ia (by omega) (by omega), q2]; omega
  · rw [if_neg c]
    rw [le_i, e0] at c
    refine ⟨fun _ => ?_, fun z => absurd rfl z⟩
    rw [le_i, eQ]; omega
/-- the doors that are open, counted -/
theorem ops_eq (ok : OKs B m f) : ∀ n, n ≤ m → 0 ≤ (OPs f n).toInt ∧ (OPs f n).toInt ≤ n ∧ ((OPs f n).toInt = 0 ↔ ∀ j, j < n → f (16 + 8 * j + 4) = 0) := by
  intro n
  induction n with
  | zero => intro _; exact ⟨(show (0 : Int) ≤ (0 : Int32).toInt by decide), (show (0 : Int32).toInt ≤ ((0 : Nat) : Int) by decide), fun _ j h => absurd h (Nat.not_lt_zero j), fun _ => rfl⟩
  | succ n ih =>
    intro hn
    have hm := ok.1
    obtain ⟨h1, h2, h3⟩ := ih (by omega)
    have hz := (ok.2.2.2.2.2.2.2.2.2.2 n (by omega)).2.2.1
    have e0 : (0 : Int32).toInt = 0 := rfl
    have e1 : (1 : Int32).toInt = 1 := rfl
    show 0 ≤ (OPs f n + f (16 + 8 * n + 4)).toInt ∧ (OPs f n + f (16 + 8 * n + 4)).toInt ≤ ((n + 1 : Nat) : Int) ∧ ((OPs f n + f (16 + 8 * n + 4)).toInt = 0 ↔ _)
    rcases hz with z | z
    · rw [z, Int32.add_zero]
      refine ⟨h1, by omega, fun h j hj => ?_, fun h => h3.mpr (fun j hj => h j (by omega))⟩
      by_cases e : j = n
      · subst e; exact z
      · exact h3.mp h j (by omega)
    · rw [z, ia (by rw [e1]; omega) (by rw [e1]; omega), e1]
      refine ⟨by omega, by omega, fun h => by omega, fun h => ?_⟩
      have := h n (by omega)
      rw [z] at this
      exact absurd this (by decide)
theorem best_loop0 {q tx ft dy kp ik jb : RW} (ok : OKs B m f) : ∀ (d i : Nat) (w : Option Nat) (lo : Int32) (q1 jb1 ft1 : RW), i + d = m → (∀ k, w = some k → k < m ∧ f (16 + 8 * k + 4) = 1) → (w = none → ∀ j, j < i → f (16 + 8 * j + 4) = 0) →
    (∀ k, (lp_X8_bestShut_11 q tx f ft dy kp ik jb m d i w lo q1 jb1 ft1).1 = some k → k < m ∧ f (16 + 8 * k + 4) = 1) ∧ ((lp_X8_bestShut_11 q tx f ft dy kp ik jb m d i w lo q1 jb1 ft1).1 = none → ∀ j, j < m → f (16 + 8 * j + 4) = 0)
  | 0, i, w, lo, q1, jb1, ft1, hd, h1, h2 => by
    have : i = m := by omega
    subst this
    exact ⟨h1, h2⟩
  | d + 1, i, w, lo, q1, jb1, ft1, hd, h1, h2 => by
    have hm := ok.1
    have eC : lp_X8_bestShut_11 q tx f ft dy kp ik jb m (d + 1) i w lo q1 jb1 ft1 = (if (sX8_of f i 4) = 1 then ((fun (z_3 : Int32 × (Nat → Int32) × (Nat → Int32) × (Nat → Int32)) => (oe w (lp_X8_bestShut_11 q tx f ft dy kp ik jb m d (i + 1) (some i) ((sX8_of z_3.2.2.2 i 3) - (sX8_of z_3.2.2.2 i 2)) z_3.2.1 z_3.2.2.1 z_3.2.2.2) (fun k_4 => (if lo ≤ ((sX8_of z_3.2.2.2 i 3) - (sX8_of z_3.2.2.2 i 2)) then (lp_X8_bestShut_11 q tx f ft dy kp ik jb m d (i + 1) (some k_4) lo z_3.2.1 z_3.2.2.1 z_3.2.2.2) else (lp_X8_bestShut_11 q tx f ft dy kp ik jb m d (i + 1) (some i) ((sX8_of z_3.2.2.2 i 3) - (sX8_of z_3.2.2.2 i 2)) z_3.2.1 z_3.2.2.1 z_3.2.2.2))))) (sX8_runOn q1 jb1 (sX8_lay (sX8_copyState 0 0 f ft1) i 4 0) 15 m)) else (lp_X8_bestShut_11 q tx f ft dy kp ik jb m d (i + 1) w lo q1 jb1 ft1)) := rfl
    rw [eC]
    generalize sX8_runOn q1 jb1 (sX8_lay (sX8_copyState 0 0 f ft1) i 4 0) 15 m = z3
    have hz := (ok.2.2.2.2.2.2.2.2.2.2 i (by omega)).2.2.1
    by_cases c : sX8_of f i 4 = 1
    · rw [if_pos c]
      have c' : f (16 + 8 * i + 4) = 1 := c
      have go : ∀ (k : Nat) (lo' : Int32), (k < m ∧ f (16 + 8 * k + 4) = 1) → _ := fun k lo' hk => best_loop0 (q := q) (tx := tx) (ft := ft) (dy := dy) (kp := kp) (ik := ik) (jb := jb) ok d (i + 1) (some k) lo' z3.2.1 z3.2.2.1 z3.2.2.2 (by omega) (fun k2 h => by cases h; exact hk) (fun h => by cases h)
      cases w with
      | none => exact go i _ ⟨by omega, c'⟩
      | some k0 =>
        show (∀ k, (if lo ≤ ((sX8_of z3.2.2.2 i 3) - (sX8_of z3.2.2.2 i 2)) then (lp_X8_bestShut_11 q tx f ft dy kp ik jb m d (i + 1) (some k0) lo z3.2.1 z3.2.2.1 z3.2.2.2) else (lp_X8_bestShut_11 q tx f ft dy kp ik jb m d (i + 1) (some i) ((sX8_of z3.2.2.2 i 3) - (sX8_of z3.2.2.2 i 2)) z3.2.1 z3.2.2.1 z3.2.2.2)).1 = some k → _) ∧ ((if lo ≤ ((sX8_of z3.2.2.2 i 3) - (sX8_of z3.2.2.2 i 2)) then (lp_X8_bestShut_11 q tx f ft dy kp ik jb m d (i + 1) (some k0) lo z3.2.1 z3.2.2.1 z3.2.2.2) else (lp_X8_bestShut_11 q tx f ft dy kp ik jb m d (i + 1) (some i) ((sX8_of z3.2.2.2 i 3) - (sX8_of z3.2.2.2 i 2)) z3.2.1 z3.2.2.1 z3.2.2.2)).1 = none → _)
        by_cases e : lo ≤ ((sX8_of z3.2.2.2 i 3) - (sX8_of z3.2.2.2 i 2))
        · rw [if_pos e]; exact go k0 _ (h1 k0 rfl)
        · rw [if_neg e]; exact go i _ ⟨by omega, c'⟩
    · rw [if_neg c]
      refine best_loop0 ok d (i + 1) w lo q1 jb1 ft1 (by omega) h1 (fun hw j hj => ?_)
      by_cases e : j = i
      · subst e
        rcases hz with z | z
        · exact z
        · exact absurd z c
      · exact h2 hw j (by omega)
theorem best_facts (ok : OKs B m f) : (qBest f = -1 ∧ OPs f m = 0) ∨ ∃ j, j < m ∧ qBest f = nI j ∧ f (16 + 8 * j + 4) = 1 ∧ ¬ OPs f m = 0 := by
  have hm := ok.1
  obtain ⟨h1, h2⟩ := best_loop0 (q := zz) (tx := zz) (ft := zz) (dy := zz) (kp := zz) (ik := zz) (jb := zz) ok m 0 none 0 (upd zz 0 0) zz zz (Nat.zero_add _) (fun k h => by cases h) (fun _ j h => absurd h (Nat.not_lt_zero j))
  have e : (sX8_bestShut zz zz f zz zz zz zz zz m).1 = (lp_X8_bestShut_11 zz zz f zz zz zz zz zz m m 0 none 0 (upd zz 0 0) zz zz).1 := rfl
  obtain ⟨-, -, o3⟩ := ops_eq ok m (Nat.le_refl _)
  have e0 : (0 : Int32).toInt = 0 := rfl
  unfold qBest
  rw [mF_of ok, e]
  generalize (lp_X8_bestShut_11 zz zz f zz zz zz zz zz m m 0 none 0 (upd zz 0 0) zz zz).1 = w at h1 h2
  cases w with
  | none => exact Or.inl ⟨rfl, Int32.toInt_inj.mp (by rw [e0]; exact o3.mpr (h2 rfl))⟩
  | some k =>
    obtain ⟨k1, k2⟩ := h1 k rfl
    refine Or.inr ⟨k, k1, rfl, k2, fun z => ?_⟩
    have := o3.mp (by rw [z]; rfl) k k1
    rw [k2] at this
    exact absurd this (by decide)
theorem sum_ge (ok : OKs B m f) : ¬ f 2 < 0 := by
  have e0 : (0 : Int32).toInt = 0 := rfl
  rw [lt_i, e0]
  have := ok.2.2.2.2.2.2.2.2.2.1
  omega
theorem le_6 {k : Nat} (h : k ≤ 6) : ¬ 6 < nI k := by
  have e6 : (6 : Int32).toInt = 6 := rfl
  rw [lt_i, t_n (by omega), e6]; omega
end P88
