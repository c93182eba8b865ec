/-! PURE: the operations on the trial state, the slots -/
section P12
variable {f g u g4 u4 : Nat → Int32} {rv rv4 : Nat → Nat → Int32} {B m : Nat} {q tx ft dy kp ik jb : Nat → Int32}
theorem tr_start (n0 : N0 rv4) (sr : SM f g u rv) (ok : OKs B m f) : SM (sX8_copyState 0 0 f ft) (sX5_copyFrom g4 u4 rv4 g u rv).1 (sX5_copyFrom g4 u4 rv4 g u rv).2.1 (sX5_copyFrom g4 u4 rv4 g u rv).2.2 ∧ OKs B m (sX8_copyState 0 0 f ft) ∧ ∀ k, k < 64 → sX8_copyState 0 0 f ft k = f k := by
  have e : ∀ k, k < 64 → sX8_copyState 0 0 f ft k = f k := fun k hk => by
    have := cp_in (p0 := 0) (q0 := 0) (f := f) (f2 := ft) hk
    rw [Nat.zero_add] at this
    exact this
  exact ⟨SM.cg e (cf_sm sr n0), OKs.cg e ok, e⟩
theorem warm_e (sr : SM f g u rv) {k : Nat} (hk : k < 6) : sX2_isWarm (rv k) = sX8_isWarm f k := by
  unfold sX2_isWarm sX8_isWarm sX8_of
  rw [show rv k 4 = f (16 + 8 * k + 3) from sr.2.2.2 k 3 hk (by decide), show rv k 3 = f (16 + 8 * k + 2) from sr.2.2.2 k 2 hk (by decide)]
theorem warm_loop {x : Int32} {k : Nat} {z1 : (Nat → Int32) × (Nat → Int32) × (Nat → Nat → Int32)} {z : Nat → Int32} (hx : x.toNatClampNeg = k) (hk : k < 6) : ∀ (d i Bc : Nat) (g1 : Nat → Int32) (rv1 : Nat → Nat → Int32) (q1 jb1 ft1 : Nat → Int32), Bc + d ≤ 100000 → SM ft1 g1 z1.2.1 rv1 → OKs Bc m ft1 →
    (lp_X7_warmIn_36 g4 u4 rv4 g u rv x z1 k d i g1 rv1).1 = 0 ∧ (lp_X7_warmIn_36 g4 u4 rv4 g u rv x z1 k d i g1 rv1).2.1 = (lp_X8_warmIn_40 q tx f ft dy kp ik jb m x z (d + 1) i q1 jb1 ft1).1 ∧ N0 (lp_X7_warmIn_36 g4 u4 rv4 g u rv x z1 k d i g1 rv1).2.2.2.2 ∧ QK q1 (lp_X8_warmIn_40 q tx f ft dy kp ik jb m x z (d + 1) i q1 jb1 ft1).2.1
  | 0, i, Bc, g1, rv1, q1, jb1, ft1, hB, s1, o1 => by
    have ew := warm_e s1 hk
    have eC : lp_X7_warmIn_36 g4 u4 rv4 g u rv x z1 k 0 i g1 rv1 = (if (sX2_isWarm (rv1 k)) = 0 then (0, (-1), g1, z1.2.1, rv1) else (0, (nI i), g1, z1.2.1, rv1)) := rfl
    have eR : lp_X8_warmIn_40 q tx f ft dy kp ik jb m x z (0 + 1) i q1 jb1 ft1 = (if (sX8_isWarm ft1 k) = 0 then ((-1), (sX8_minuteOn q1 jb1 ft1 m).1, (sX8_minuteOn q1 jb1 ft1 m).2.2, (sX8_minuteOn q1 jb1 ft1 m).2.1) else ((nI i), q1, ft1, jb1)) := by
      rw [← hx]; rfl
    have hq := minute_q q1 jb1 ft1 m
    rw [eC, eR, ew]
    by_cases h : sX8_isWarm ft1 k = 0
    · rw [if_pos h, if_pos h]
      exact ⟨rfl, rfl, s1.2.2.1, hq⟩
    · rw [if_neg h, if_neg h]
      exact ⟨rfl, rfl, s1.2.2.1, fun _ _ => rfl⟩
  | d + 1, i, Bc, g1, rv1, q1, jb1, ft1, hB, s1, o1 => by
    have ew := warm_e s1 hk
    have eC : lp_X7_warmIn_36 g4 u4 rv4 g u rv x z1 k (d + 1) i g1 rv1 = (if (sX2_isWarm (rv1 k)) = 0 then lp_X7_warmIn_36 g4 u4 rv4 g u rv x z1 k d (i + 1) (sX5_passMinute g1 z1.2.1 rv1).1 (sX5_passMinute g1 z1.2.1 rv1).2 else (if (sX2_isWarm (rv1 k)) = 0 then (0, (-1), g1, z1.2.1, rv1) else (0, (nI i), g1, z1.2.1, rv1))) := rfl
    have eR : lp_X8_warmIn_40 q tx f ft dy kp ik jb m x z (d + 1 + 1) i q1 jb1 ft1 = (if (sX8_isWarm ft1 k) = 0 then lp_X8_warmIn_40 q tx f ft dy kp ik jb m x z (d + 1) (i + 1) (sX8_minuteOn q1 jb1 ft1 m).1 (sX8_minuteOn q1 jb1 ft1 m).2.1 (sX8_minuteOn q1 jb1 ft1 m).2.2 else ((nI i), q1, ft1, jb1)) := by
      rw [← hx]; rfl
    have hq := minute_q q1 jb1 ft1 m
    obtain ⟨i1, i2, -⟩ := minute_eq (by omega) s1 o1 q1 jb1
    rw [eC, eR, ew]
    by_cases h : sX8_isWarm ft1 k = 0
    · rw [if_pos h, if_pos h]
      obtain ⟨r1, r2, r3, r4⟩ := warm_loop hx hk d (i + 1) (Bc + 1) _ _ (sX8_minuteOn q1 jb1 ft1 m).1 (sX8_minuteOn q1 jb1 ft1 m).2.1 (sX8_minuteOn q1 jb1 ft1 m).2.2 (by omega) i1 i2
      exact ⟨r1, r2, r3, hq.trans r4⟩
    · rw [if_neg h, if_neg h, if_neg h]
      exact ⟨rfl, rfl, s1.2.2.1, fun _ _ => rfl⟩
theorem op_warmIn (hB : B ≤ 99000) (n0 : N0 rv4) (sr : SM f g u rv) (ok : OKs B m f) (x : Int32) :
    EQOP 3 (sX7_warmIn g4 u4 rv4 g u rv x).1 (sX7_warmIn g4 u4 rv4 g u rv x).2.1 ((sX8_warmIn q tx f ft dy kp ik jb m x).2.1 0) (sX8_warmIn q tx f ft dy kp ik jb m x).1 ∧ N0 (sX7_warmIn g4 u4 rv4 g u rv x).2.2.2.2 ∧ KR q (sX8_warmIn q tx f ft dy kp ik jb m x).2.1 := by
  obtain ⟨t1, t2, t3⟩ := tr_start (g4 := g4) (u4 := u4) (ft := ft) n0 sr ok
  have eZ : sX7_warmIn g4 u4 rv4 g u rv x = sX7_warmIn_z_1 g4 u4 rv4 g u rv x (sX5_copyFrom g4 u4 rv4 g u rv) := rfl
  rw [eZ]
  generalize sX5_copyFrom g4 u4 rv4 g u rv = z1 at t1 ⊢
  by_cases hR : sX8_isRoom f x = 0
  · have hR' : sX8_isRoom (sX8_copyState 0 0 f ft) x = 0 := by
      unfold sX8_isRoom
      rw [t3 0 (by decide)]; exact hR
    have eC : sX7_warmIn_z_1 g4 u4 rv4 g u rv x z1 = (3, 0, z1.1, z1.2.1, z1.2.2) := oe_n (roomAt_n t1 t2 hR')
    have eR : sX8_warmIn q tx f ft dy kp ik jb m x = (0, upd q 0 1, ft, jb) := if_pos hR
    rw [eC, eR]
    dsimp only
    exact ⟨⟨pk_us, fun h => absurd h (by decide)⟩, t1.2.2.1, KR.one q 1⟩
  · obtain ⟨hk, hk6⟩ := isr_n ok hR
    have hR' : ¬ sX8_isRoom (sX8_copyState 0 0 f ft) x = 0 := by
      unfold sX8_isRoom
      rw [t3 0 (by decide)]; exact hR
    have eC : sX7_warmIn_z_1 g4 u4 rv4 g u rv x z1 = lp_X7_warmIn_36 g4 u4 rv4 g u rv x z1 x.toNatClampNeg 240 0 z1.1 z1.2.2 := oe_s (roomAt_s t1 t2 hR')
    have eR : sX8_warmIn q tx f ft dy kp ik jb m x = lp_X8_warmIn_40 q tx f ft dy kp ik jb m x (sX8_copyState 0 0 f ft) (240 + 1) 0 (upd q 0 0) jb (sX8_copyState 0 0 f ft) := if_neg hR
    obtain ⟨r1, r2, r3, r4⟩ := warm_loop (g := g) (u := u) (g4 := g4) (u4 := u4) (rv := rv) (rv4 := rv4) (f := f) (q := q) (tx := tx) (ft := ft) (dy := dy) (kp := kp) (ik := ik) (jb := jb) (z := sX8_copyState 0 0 f ft) rfl hk6 240 0 B z1.1 z1.2.2 (upd q 0 0) jb (sX8_copyState 0 0 f ft) (by omega) t1 t2
    rw [eC, eR]
    generalize lp_X8_warmIn_40 q tx f ft dy kp ik jb m x (sX8_copyState 0 0 f ft) (240 + 1) 0 (upd q 0 0) jb (sX8_copyState 0 0 f ft) = zR at r2 r4 ⊢
    generalize lp_X7_warmIn_36 g4 u4 rv4 g u rv x z1 x.toNatClampNeg 240 0 z1.1 z1.2.2 = zC at r1 r2 r3 ⊢
    exact ⟨⟨by rw [r1, r4 0 (by decide)]; exact pk_us, fun _ => r2⟩, r3, KR.qk r4⟩
/-- the warmest room -/
theorem wm_dif (ok : OKs B m f) {i : Nat} (hi : i < m) : (sX8_of f i 3 - sX8_of f i 2).toInt = (f (16 + 8 * i + 3)).toInt - (f (16 + 8 * i + 2)).toInt ∧ (-400 ≤ (f (16 + 8 * i + 3)).toInt ∧ (f (16 + 8 * i + 3)).toInt ≤ 400) ∧ (-300 ≤ (f (16 + 8 * i + 2)).toInt ∧ (f (16 + 8 * i + 2)).toInt ≤ 200) := by
  have o := (ok.2.2.2.2.2.2.2.2.2.2 i (Nat.lt_of_lt_of_le hi ok.1)).2.2.2.2.2 hi
  refine ⟨?_, o.1, o.2⟩
  have h := o.1
  have h2 := o.2
  unfold sX8_of
  rw [is_ (by omega) (by omega)]
theorem wm_eq (sr : SM f g u rv) (ok : OKs B m f) : ∀ (d i : Nat) (w : Option Nat), i + d = 6 → (∀ k, w = some k → k < m) → lp_X5_warmestRoom_13 g u rv d i w = ob (lp_X8_warmest_4 f m (m - i) i w)
  | 0, i, w, hd, hw => by
    have hm := ok.1
    rw [show m - i = 0 by omega]
    show oe w (-1) (fun k => rv k 0) = ob w
    rcases w with _ | k
    · rfl
    · exact sr.2.2.1 k (Nat.lt_of_lt_of_le (hw k rfl) hm)
  | d + 1, i, w, hd, hw => by
    have hm := ok.1
    have eC : lp_X5_warmestRoom_13 g u rv (d + 1) i w = (if (sX2_isThere (rv i)) = 0 then (lp_X5_warmestRoom_13 g u rv d (i + 1) w) else (oe w (lp_X5_warmestRoom_13 g u rv d (i + 1) (some i)) (fun k_2 => (if (sX2_warmth (rv i)) ≤ (sX2_warmth (rv k_2)) then (lp_X5_warmestRoom_13 g u rv d (i + 1) (some k_2)) else (lp_X5_warmestRoom_13 g u rv d (i + 1) (some i)))))) := rfl
    rw [eC]
    by_cases h : i < m
    · have hth : ¬ sX2_isThere (rv i) = 0 := fun z => by
        have := (there_iff sr ok (by omega)).mp z
        omega
      have si : ∀ k, some i = some k → k < m := fun k hk => by cases hk; exact h
      rw [if_neg hth, show m - i = (m - (i + 1)) + 1 by omega]
      have eR : lp_X8_warmest_4 f m (m - (i + 1) + 1) i w = (oe w (lp_X8_warmest_4 f m (m - (i + 1)) (i + 1) (some i)) (fun k_1 => (if ((((sX8_of f i 3) - (sX8_of f i 2)) - (sX8_of f k_1 3)) + (sX8_of f k_1 2)) ≤ 0 then (lp_X8_warmest_4 f m (m - (i + 1)) (i + 1) (some k_1)) else (lp_X8_warmest_4 f m (m - (i + 1)) (i + 1) (some i))))) := rfl
      rw [eR]
      rcases w with _ | k
      · exact wm_eq sr ok d (i + 1) (some i) (by omega) si
      · have hk := hw k rfl
        obtain ⟨a1, a2, a3⟩ := wm_dif ok h
        obtain ⟨b1, b2, b3⟩ := wm_dif ok hk
        have ei : sX2_warmth (rv i) = sX8_of f i 3 - sX8_of f i 2 := by
          unfold sX2_warmth sX8_of
          rw [show rv i 4 = f (16 + 8 * i + 3) from sr.2.2.2 i 3 (by omega) (by decide), show rv i 3 = f (16 + 8 * i + 2) from sr.2.2.2 i 2 (by omega) (by decide)]
        have ek : sX2_warmth (rv k) = sX8_of f k 3 - sX8_of f k 2 := by
          unfold sX2_warmth sX8_of
          rw [show rv k 4 = f (16 + 8 * k + 3) from sr.2.2.2 k 3 (by omega) (by decide), show rv k 3 = f (16 + 8 * k + 2) from sr.2.2.2 k 2 (by omega) (by decide)]
        have e3 : (sX8_of f k 3).toInt = (f (16 + 8 * k + 3)).toInt := rfl
        have e2 : (sX8_of f k 2).toInt = (f (16 + 8 * k + 2)).toInt := rfl
        have c1 : (sX8_of f i 3 - sX8_of f i 2 - sX8_of f k 3).toInt = (sX8_of f i 3 - sX8_of f i 2).toInt - (sX8_of f k 3).toInt := is_ (by rw [a1, e3]; omega) (by rw [a1, e3]; omega)
        have c2 : (sX8_of f i 3 - sX8_of f i 2 - sX8_of f k 3 + sX8_of f k 2).toInt = (sX8_of f i 3 - sX8_of f i 2 - sX8_of f k 3).toInt + (sX8_of f k 2).toInt := ia (by rw [c1, a1, e3, e2]; omega) (by rw [c1, a1, e3, e2]; omega)
        have iff : (sX2_warmth (rv i) ≤ sX2_warmth (rv k)) ↔ (sX8_of f i 3 - sX8_of f i 2 - sX8_of f k 3 + sX8_of f k 2 ≤ 0) := by
          have z0 : (0 : Int32).toInt = 0 := rfl
          rw [ei, ek, le_i, le_i, c2, c1, a1, b1, e3, e2, z0]
          omega
        show (if sX2_warmth (rv i) ≤ sX2_warmth (rv k) then lp_X5_warmestRoom_13 g u rv d (i + 1) (some k) else lp_X5_warmestRoom_13 g u rv d (i + 1) (some i)) = ob (if sX8_of f i 3 - sX8_of f i 2 - sX8_of f k 3 + sX8_of f k 2 ≤ 0 then lp_X8_warmest_4 f m (m - (i + 1)) (i + 1) (some k) else lp_X8_warmest_4 f m (m - (i + 1)) (i + 1) (some i))
        by_cases hc : sX2_warmth (rv i) ≤ sX2_warmth (rv k)
        · rw [if_pos hc, if_pos (iff.mp hc)]
          exact wm_eq sr ok d (i + 1) (some k) (by omega) hw
        · rw [if_neg hc, if_neg (fun z => hc (iff.mpr z))]
          exact wm_eq sr ok d (i + 1) (some i) (by omega) si
    · have hth : sX2_isThere (rv i) = 0 := (there_iff sr ok (by omega)).mpr (by omega)
      have e0 : m - i = 0 := by omega
      have e1 : m - (i + 1) = 0 := by omega
      have ih := wm_eq sr ok d (i + 1) w (by omega) hw
      rw [if_pos hth, e0, ih, e1]
      rfl
def cfin (g : Nat → Int32) (y : Int32) (u1 : Nat → Int32) (z : (Nat → Int32) × (Nat → Nat → Int32)) : Int32 × Int32 × (Nat → Int32) × (Nat → Int32) × (Nat → Nat → Int32) :=
  (if y = 0 then (0, ((z.1 5) - (g 5)), z.1, u1, z.2) else (if y = 1 then (0, ((z.1 3) - (g 3)), z.1, u1, z.2) else (if y = 2 then (0, ((z.1 6) - (g 6)), z.1, u1, z.2) else (if y = 3 then (0, ((z.1 7) - (g 7)), z.1, u1, z.2) else (0, (sX5_warmestRoom z.1 u1 z.2), z.1, u1, z.2)))))
theorem com_cit {x y : Int32} {z1 : (Nat → Int32) × (Nat → Int32) × (Nat → Nat → Int32)} : ∀ (d i : Nat) (g1 : Nat → Int32) (rv1 : Nat → Nat → Int32), lp_X7_coming_44 g4 u4 rv4 g u rv x y z1 d i g1 rv1 = cfin g y z1.2.1 (cit z1.2.1 d (g1, rv1))
  | 0, i, g1, rv1 => rfl
  | d + 1, i, g1, rv1 => com_cit d (i + 1) (sX5_passMinute g1 z1.2.1 rv1).1 (sX5_passMinute g1 z1.2.1 rv1).2
theorem op_coming (hB : B ≤ 99000) (n0 : N0 rv4) (sr : SM f g u rv) (ok : OKs B m f) (x y : Int32) :
    EQOP 1 (sX7_coming g4 u4 rv4 g u rv x y).1 (sX7_coming g4 u4 rv4 g u rv x y).2.1 ((sX8_coming q tx f ft dy kp ik jb m x y).2.1 0) (sX8_coming q tx f ft dy kp ik jb m x y).1 ∧ N0 (sX7_coming g4 u4 rv4 g u rv x y).2.2.2.2 ∧ KR q (sX8_coming q tx f ft dy kp ik jb m x y).2.1 := by
  have z0 : (0 : Int32).toInt = 0 := rfl
  have z1' : (1 : Int32).toInt = 1 := rfl
  have z4 : (4 : Int32).toInt = 4 := rfl
  have z240 : (240 : Int32).toInt = 240 := rfl
  by_cases hA : sX8_in x.toInt64 1 240 = 0
  · have hb := (in32 (a := 1) (b := 240) rfl rfl).mp hA
    have eR : sX8_coming q tx f ft dy kp ik jb m x y = (0, upd q 0 1, ft, jb) := if_pos hA
    have eC : sX7_coming g4 u4 rv4 g u rv x y = (1, 0, g4, u4, rv4) := by
      unfold sX7_coming
      by_cases h0 : x < 1
      · rw [if_pos h0]
      · rw [if_neg h0]
        have h5 : 240 < x := by
          rw [lt_i, z240]
          rw [lt_i, z1'] at h0
          omega
        rw [if_pos h5]
    rw [eC, eR]
    dsimp only
    exact ⟨⟨pk_us, fun h => absurd h (by decide)⟩, n0, KR.one q 1⟩
  · have hb : 1 ≤ x.toInt ∧ x.toInt ≤ 240 := lv_at0 (fun h => hA ((in32 (a := 1) (b := 240) rfl rfl).mpr h))
    have h0 : ¬ x < 1 := fun h => by
      rw [lt_i, z1'] at h
      omega
    have h5 : ¬ 240 < x := fun h => by
      rw [lt_i, z240] at h
      omega
    by_cases hY : sX8_in y.toInt64 0 4 = 0
    · have hc := (in32 (a := 0) (b := 4) rfl rfl).mp hY
      have eR : sX8_coming q tx f ft dy kp ik jb m x y = (0, upd q 0 1, ft, jb) := (if_neg hA).trans (if_pos hY)
      have eC : sX7_coming g4 u4 rv4 g u rv x y = (1, 0, g4, u4, rv4) := by
        unfold sX7_coming
        rw [if_neg h0, if_neg h5]
        by_cases k0 : y < 0
        · rw [if_pos k0]
        · rw [if_neg k0]
          have k5 : ¬ y ≤ 4 := fun h => by
            rw [le_i, z4] at h
            rw [lt_i, z0] at k0
            omega
          rw [if_neg k5]
      rw [eC, eR]
      dsimp only
      exact ⟨⟨pk_us, fun h => absurd h (by decide)⟩, n0, KR.one q 1⟩
    · have hc : 0 ≤ y.toInt ∧ y.toInt ≤ 4 := lv_at0 (fun h => hY ((in32 (a := 0) (b := 4) rfl rfl).mpr h))
      have k0 : ¬ y < 0 := fun h => by
        rw [lt_i, z0] at h
        omega
      have k5 : y ≤ 4 := by
        rw [le_i, z4]; omega
      obtain ⟨t1, t2, t3⟩ := tr_start (g4 := g4) (u4 := u4) (ft := ft) n0 sr ok
      have eC : sX7_coming g4 u4 rv4 g u rv x y = sX7_coming_z_1 g4 u4 rv4 g u rv x y (sX5_copyFrom g4 u4 rv4 g u rv) := by
        unfold sX7_coming
        rw [if_neg h0, if_neg h5, if_neg k0, if_pos k5]
      have eR : sX8_coming q tx f ft dy kp ik jb m x y = sX8_coming_z_2 q tx f ft dy kp ik jb m x y (sX8_copyState 0 0 f ft) (sX8_runOn (upd q 0 0) jb (sX8_copyState 0 0 f ft) x m) := (if_neg hA).trans (if_neg hY)
      rw [eC, eR]
      generalize sX5_copyFrom g4 u4 rv4 g u rv = z1 at t1 ⊢
      generalize sX8_copyState 0 0 f ft = F at t1 t2 t3 ⊢
      have hP : sX7_coming_z_1 g4 u4 rv4 g u rv x y z1 = cfin g y z1.2.1 (cit z1.2.1 x.toNatClampNeg (z1.1, z1.2.2)) := com_cit x.toNatClampNeg 0 z1.1 z1.2.2
      have hR : sX8_runOn (upd q 0 0) jb F x m = ((mit m x.toNatClampNeg ((upd q 0 0), jb, F)).2.2 5 - F 5, (mit m x.toNatClampNeg ((upd q 0 0), jb, F)).1, (mit m x.toNatClampNeg ((upd q 0 0), jb, F)).2.1, (mit m x.toNatClampNeg ((upd q 0 0), jb, F)).2.2) := rn_mit x.toNatClampNeg 0 (upd q 0 0) jb F
      have hn : x.toNatClampNeg ≤ 240 := by rw [tc_n]; omega
      obtain ⟨i1, i2, i3⟩ := it_eq x.toNatClampNeg B z1.1 z1.2.2 (upd q 0 0) jb F (by omega) t1 t2
      have iq := mit_q (m := m) x.toNatClampNeg (upd q 0 0) jb F
      rw [hP, hR]
      generalize mit m x.toNatClampNeg ((upd q 0 0), jb, F) = z3 at i1 i2 i3 iq ⊢
      generalize cit z1.2.1 x.toNatClampNeg (z1.1, z1.2.2) = y3 at i1 ⊢
      have i2' := i2.1
      have j0 : z3.1 0 = 0 := (iq 0 (by decide)).trans pk_us
      have gg : ∀ k, 1 ≤ k → k ≤ 9 → y3.1 k - g k = z3.2.2 k - f k := fun k a b => by rw [i1.1 k a b, sr.1 k a b]
      have hw : y.toInt = 0 ∨ y.toInt = 1 ∨ y.toInt = 2 ∨ y.toInt = 3 ∨ y.toInt = 4 := by omega
      rcases hw with h | h | h | h | h
      · have e := lit (c := 0) rfl h
        subst e
        refine ⟨⟨j0, fun _ => ?_⟩, i1.2.2.1, KR.qk iq⟩
        show y3.1 5 - g 5 = z3.2.2 5 - F 5
        rw [t3 5 (by decide)]; exact gg 5 (by decide) (by decide)
      · have e := lit (c := 1) rfl h
        subst e
        exact ⟨⟨j0, fun _ => gg 3 (by decide) (by decide)⟩, i1.2.2.1, KR.qk iq⟩
      · have e := lit (c := 2) rfl h
        subst e
        exact ⟨⟨j0, fun _ => gg 6 (by decide) (by decide)⟩, i1.2.2.1, KR.qk iq⟩
      · have e := lit (c := 3) rfl h
        subst e
        exact ⟨⟨j0, fun _ => gg 7 (by decide) (by decide)⟩, i1.2.2.1, KR.qk iq⟩
      · have e := lit (c := 4) rfl h
        subst e
        exact ⟨⟨j0, fun _ => wm_eq i1 i2 6 0 none rfl (fun k hk => by cases hk)⟩, i1.2.2.1, KR.qk iq⟩
end P12
