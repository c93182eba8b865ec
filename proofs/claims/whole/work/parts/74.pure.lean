/-! PURE: load; what a new object holds -/
def clN : Nat → Int32 := upd (upd (upd (upd (upd (fun _ => 0) 10 600) 12 10) 13 12) 14 30) 15 6
theorem cl_loop {f : Nat → Int32} : ∀ (d i : Nat) (f1 : Nat → Int32), i + d = 64 → lp_X8_clear_2 f d i f1 = upd (upd (upd (upd (upd (fun x => if i ≤ x ∧ x < 64 then 0 else f1 x) 10 600) 12 10) 13 12) 14 30) 15 6
  | 0, i, f1, h => by
    have e : (fun x => if i ≤ x ∧ x < 64 then 0 else f1 x) = f1 := by
      funext x
      exact if_neg (by omega)
    rw [e]; rfl
  | d + 1, i, f1, h => by
    have ih := cl_loop (f := f) d (i + 1) (upd f1 i 0) (by omega)
    have e : (fun x => if i + 1 ≤ x ∧ x < 64 then 0 else upd f1 i 0 x) = (fun x => if i ≤ x ∧ x < 64 then 0 else f1 x) := by
      funext x
      by_cases hx : x = i
      · subst hx
        rw [if_neg (by omega), if_pos (by omega), pk_us]
      · rw [pk_un hx]
        by_cases h2 : i ≤ x ∧ x < 64
        · rw [if_pos (by omega), if_pos h2]
        · rw [if_neg (by omega), if_neg h2]
    rw [e] at ih
    exact ih
theorem clear_at (f : Nat → Int32) {k : Nat} (hk : k < 64) : sX8_clear f k = clN k := by
  have e : sX8_clear f = _ := cl_loop (f := f) 64 0 f rfl
  rw [e]
  unfold clN
  have hh : ∀ a : Nat → Int32, (∀ x, x < 64 → a x = 0) → upd (upd (upd (upd (upd a 10 600) 12 10) 13 12) 14 30) 15 6 k = upd (upd (upd (upd (upd (fun _ => 0) 10 600) 12 10) 13 12) 14 30) 15 6 k := fun a ha => by
    by_cases k15 : k = 15
    · subst k15; rw [pk_us, pk_us]
    rw [pk_un k15, pk_un k15]
    by_cases k14 : k = 14
    · subst k14; rw [pk_us, pk_us]
    rw [pk_un k14, pk_un k14]
    by_cases k13 : k = 13
    · subst k13; rw [pk_us, pk_us]
    rw [pk_un k13, pk_un k13]
    by_cases k12 : k = 12
    · subst k12; rw [pk_us, pk_us]
    rw [pk_un k12, pk_un k12]
    by_cases k10 : k = 10
    · subst k10; rw [pk_us, pk_us]
    rw [pk_un k10, pk_un k10]
    exact ha k hk
  exact hh _ (fun x hx => if_pos ⟨Nat.zero_le _, hx⟩)
theorem clN_0 {k : Nat} (h : k < 10 ∨ k = 11 ∨ 15 < k) : clN k = 0 := by
  unfold clN
  simp (disch := omega) only [pk_un]
theorem sm_new : SM clN gz uz rz := by
  refine ⟨fun k h1 h2 => (clN_0 (by omega)).symm, fun k hk => ?_, fun i hi => rfl, fun i w hi hw => ?_⟩
  · have : k = 0 ∨ k = 1 ∨ k = 2 ∨ k = 3 ∨ k = 4 ∨ k = 5 := by omega
    rcases this with h | h | h | h | h | h <;> subst h <;> rfl
  · rw [clN_0 (by omega), show 1 + w = w + 1 by omega]
    rfl
theorem ok_new : OKs 0 0 clN := by
  have z : (0 : Int32).toInt = 0 := rfl
  refine ⟨by decide, clN_0 (by omega), ⟨by decide, by decide⟩, ⟨by decide, by decide⟩, ⟨by decide, by decide⟩, ⟨by decide, by decide⟩, ⟨by decide, by decide⟩, ⟨by decide, by decide⟩, ⟨by decide, by decide⟩, ⟨by decide, by decide, by decide, by decide⟩, fun i hi => ?_⟩
  unfold RO
  rw [clN_0 (by omega), clN_0 (by omega), clN_0 (by omega), clN_0 (by omega), clN_0 (by omega)]
  exact ⟨fun h => absurd h (Nat.not_lt_zero _), fun _ => rfl, Or.inl rfl, by rw [z]; omega, by rw [z]; omega, fun h => absurd h (Nat.not_lt_zero _)⟩
theorem sm_clear (f : Nat → Int32) : SM (sX8_clear f) gz uz rz ∧ OKs 0 0 (sX8_clear f) := ⟨SM.cg (fun x hx => clear_at f hx) sm_new, OKs.cg (fun x hx => clear_at f hx) ok_new⟩
section P25
variable {q tq sg tx f ft dy kp ik jb : Nat → Int32} {sz : Nat} {g u : Nat → Int32} {rv : Nat → Nat → Int32} {B m cc : Nat} {mq : Nat → Int32} {r : Nat → Nat} {mg mu : Nat → Nat → Int32} {mr : Nat → Nat → Nat → Int32} {s0 s1 g6 u6 g7 u7 : Nat → Int32} {rv6 rv7 : Nat → Nat → Int32}
theorem slo_empty {s : Nat → Int32} {k : Int32} {o : Nat} (S : SLO B s g6 u6 rv6 k kp o) : SLO B (sX4_empty s) g6 u6 rv6 0 kp o := ⟨pk_us, Or.inl rfl, S.2.2.1, S.2.2.2.1, fun h => absurd h (by decide)⟩
theorem op_load (hB : 7200 ≤ B) (T : TXT tq sg (q 2) tx sz) (rq : Nat → Int32) (M : MEM B cc mq r mg mu mr (q 6) dy) (S0 : SLO B s0 g6 u6 rv6 (ik 0) kp 0) (S1 : SLO B s1 g7 u7 rv7 (ik 1) kp 64) (sr : SM f g u rv) (ok : OKs B m f) :
    EQOP 2 (sX7_load rq tq sg mq s0 s1 gz uz rz g u rv).1 (sX7_load rq tq sg mq s0 s1 gz uz rz g u rv).2.1 ((sX8_load q tx f ft dy kp ik jb).2.1 0) (sX8_load q tx f ft dy kp ik jb).1 ∧
    (∃ cc', MEM B cc' (sX7_load rq tq sg mq s0 s1 gz uz rz g u rv).2.2.2.1 r mg mu mr ((sX8_load q tx f ft dy kp ik jb).2.1 6) dy) ∧
    SLO B (sX7_load rq tq sg mq s0 s1 gz uz rz g u rv).2.2.2.2.1 g6 u6 rv6 ((sX8_load q tx f ft dy kp ik jb).2.2.2.2.1 0) kp 0 ∧
    SLO B (sX7_load rq tq sg mq s0 s1 gz uz rz g u rv).2.2.2.2.2.1 g7 u7 rv7 ((sX8_load q tx f ft dy kp ik jb).2.2.2.2.1 1) kp 64 ∧
    ST B (sX8_load q tx f ft dy kp ik jb).2.2.1 (sX7_load rq tq sg mq s0 s1 gz uz rz g u rv).2.2.2.2.2.2.1 (sX7_load rq tq sg mq s0 s1 gz uz rz g u rv).2.2.2.2.2.2.2.1 (sX7_load rq tq sg mq s0 s1 gz uz rz g u rv).2.2.2.2.2.2.2.2 ∧
    (sX8_load q tx f ft dy kp ik jb).2.1 2 = q 2 := by
  have hsz := T.2.2.1
  obtain ⟨i1, i2⟩ := first_eq (ft := ft) (jb := jb) (rq := rq) (z := q) T T.2.1
  have eC : sX7_load rq tq sg mq s0 s1 gz uz rz g u rv = sX7_load_z_1 rq tq sg mq s0 s1 gz uz rz g u rv (sX1_firstError rq tq sg) := rfl
  have eR : sX8_load q tx f ft dy kp ik jb = sX8_load_z_1 q tx f ft dy kp ik jb (sX8_readText q tx ft jb) := rfl
  rw [eC, eR]
  by_cases hm : (sX8_readText q tx ft jb).1 = -1
  · have hs := first_sign T (z := upd (upd q 11 0) 12 0) (by rw [pk_un (by decide), pk_un (by decide)]; exact T.2.1)
    obtain ⟨n1, n2⟩ := sm_clear ft
    have e1 : sX8_readText q tx ft jb = (if (sX8_at (upd (upd q 11 0) 12 0) tx 0) = 77 then (lp_X8_readText_31 q tx ft jb (sX8_clear ft) (119 + 1) (upd (upd q 11 1) 12 0) (sX8_clear ft) jb 1 0) else (0, (upd (upd q 11 0) 12 0), (sX8_clear ft), jb)) := rfl
    by_cases h : sX6_signAt tq sg 0 = 77
    · rw [if_pos (show sX8_at (upd (upd q 11 0) 12 0) tx 0 = 77 by rw [← hs]; exact h)] at e1
      have hp1 : 1 ≤ sz := Classical.byContradiction (fun hq => by
        have e : sX6_signAt tq sg 0 = -1 := sign_out T (p := 0) (by omega) (by decide)
        rw [e] at h
        exact absurd h (by decide))
      generalize sX1_firstError rq tq sg = z1 at i1 ⊢
      have hz1 : z1.1 = -1 := i1.trans hm
      have e2 : sX7_load_z_1 rq tq sg mq s0 s1 gz uz rz g u rv z1 = lp_X7_load_64 rq tq sg mq s0 s1 gz uz rz g u rv z1 (sX5_copyFrom g u rv gz uz rz) (upd mq 1 0) (sX4_empty s0) (sX4_empty s1) (sX1_start z1.2 tq sg) (119 + 1) 0 0 (sX1_start z1.2 tq sg) (sX5_copyFrom g u rv gz uz rz).1 (sX5_copyFrom g u rv gz uz rz).2.1 (sX5_copyFrom g u rv gz uz rz).2.2 := if_pos hz1
      have st := start_ok (rq := z1.2) h
      have s3 := cf_sm (g := g) (u := u) n1 sr.2.2.1
      rw [e2]
      generalize sX5_copyFrom g u rv gz uz rz = Y at s3 ⊢
      generalize sX1_start z1.2 tq sg = S at st ⊢
      generalize sX8_clear ft = F at n1 n2 s3 e1
      rw [e1] at hm i2 ⊢
      obtain ⟨f1, f2, f3, f4, f5, n', f6, f7⟩ := load_loop T (ft0 := ft) (jb0 := jb) (rq := rq) (qz := q) (mq := mq) (s0 := s0) (s1 := s1) (g2 := gz) (u2 := uz) (g := g) (u := u) (rv2 := rz) (rv := rv) (zc := S) (zr := F) (y1 := z1) (y2 := Y) (y3 := upd mq 1 0) (y4 := sX4_empty s0) (y5 := sX4_empty s1) (y6 := S) (119 + 1) 0 1 0 0 0 S (upd (upd q 11 1) 12 0) F jb Y.1 Y.2.1 Y.2.2 (by omega) hp1 st (by rw [pk_un (by decide), pk_us]; rfl) (by rw [pk_un (by decide), pk_un (by decide)]; exact T.2.1) pk_us (by omega) s3 n2 hm
      generalize lp_X8_readText_31 q tx ft jb F (119 + 1) (upd (upd q 11 1) 12 0) F jb 1 0 = zr at hm i2 f2 f6 f7 ⊢
      generalize lp_X7_load_64 rq tq sg mq s0 s1 gz uz rz g u rv z1 Y (upd mq 1 0) (sX4_empty s0) (sX4_empty s1) S (119 + 1) 0 0 S Y.1 Y.2.1 Y.2.2 = zl at f1 f2 f3 f4 f5 f6 ⊢
      unfold sX8_load_z_1
      rw [if_pos hm]
      unfold sX8_load_z_2
      dsimp only
      have cpe : ∀ k, k < 64 → sX8_copyState 0 0 zr.2.2.1 f k = zr.2.2.1 k := fun k hk => by
        have := cp_in (p0 := 0) (q0 := 0) (f := zr.2.2.1) (f2 := f) hk
        rw [Nat.zero_add] at this
        exact this
      rw [f3, f4, f5]
      refine ⟨⟨?_, fun _ => f2⟩, ⟨0, pk_us, ?_, by omega, M.2.2.2.1, M.2.2.2.2.1, M.2.2.2.2.2.1, fun p hp => absurd hp (Nat.not_lt_zero _)⟩, ?_, ?_, ⟨n', SM.cg cpe f6, OKs.cg cpe (f7.mono (by omega))⟩, ?_⟩
      · rw [f1, pk_un (by decide), pk_us]; rfl
      · rw [pk_us]; rfl
      · rw [pk_un (by decide), pk_us]; exact slo_empty S0
      · rw [pk_us]; exact slo_empty S1
      · rw [pk_un (by decide), pk_un (by decide)]
        exact i2 2 (by decide) (by decide) (by decide) (by decide)
    · rw [if_neg (show ¬ sX8_at (upd (upd q 11 0) 12 0) tx 0 = 77 by rw [← hs]; exact h)] at e1
      rw [e1] at hm
      exact absurd hm (show ¬ (0 : Int32) = -1 by decide)
  · generalize sX1_firstError rq tq sg = z1 at i1 ⊢
    generalize sX8_readText q tx ft jb = zr at i1 i2 hm ⊢
    have hz1 : ¬ z1.1 = -1 := fun h => hm (i1.symm.trans h)
    have e2 : sX7_load_z_1 rq tq sg mq s0 s1 gz uz rz g u rv z1 = (2, 0, z1.2, mq, s0, s1, g, u, rv) := if_neg hz1
    have e3 : sX8_load_z_1 q tx f ft dy kp ik jb zr = (0, (upd zr.2.1 0 1), f, zr.2.2.1, ik, zr.2.2.2) := if_neg hm
    rw [e2, e3]
    dsimp only
    have q6 : upd zr.2.1 0 1 6 = q 6 := by
      rw [pk_un (by decide)]; exact i2 6 (by decide) (by decide) (by decide) (by decide)
    rw [q6]
    refine ⟨⟨pk_us, fun h => absurd h (by decide)⟩, ⟨cc, M⟩, S0, S1, ⟨m, sr, ok⟩, ?_⟩
    rw [pk_un (by decide)]; exact i2 2 (by decide) (by decide) (by decide) (by decide)
end P25
