/-! PURE: many minutes, copies -/
def cit (u : Nat → Int32) : Nat → (Nat → Int32) × (Nat → Nat → Int32) → (Nat → Int32) × (Nat → Nat → Int32)
  | 0, z => z
  | d + 1, z => cit u d ((sX5_passMinute z.1 u z.2).1, (sX5_passMinute z.1 u z.2).2)
def mit (m : Nat) : Nat → (Nat → Int32) × (Nat → Int32) × (Nat → Int32) → (Nat → Int32) × (Nat → Int32) × (Nat → Int32)
  | 0, z => z
  | d + 1, z => mit m d ((sX8_minuteOn z.1 z.2.1 z.2.2 m).1, (sX8_minuteOn z.1 z.2.1 z.2.2 m).2.1, (sX8_minuteOn z.1 z.2.1 z.2.2 m).2.2)
theorem pm_cit {g u : Nat → Int32} {rv : Nat → Nat → Int32} {n : Int32} : ∀ (d i : Nat) (g1 : Nat → Int32) (rv1 : Nat → Nat → Int32), lp_X5_passMinutes_11 g u rv n d i g1 rv1 = (1, (cit u d (g1, rv1)).1, (cit u d (g1, rv1)).2)
  | 0, _, _, _ => rfl
  | d + 1, i, g1, rv1 => by
    have e : cit u (d + 1) (g1, rv1) = cit u d ((sX5_passMinute g1 u rv1).1, (sX5_passMinute g1 u rv1).2) := rfl
    have e2 : lp_X5_passMinutes_11 g u rv n (d + 1) i g1 rv1 = lp_X5_passMinutes_11 g u rv n d (i + 1) (sX5_passMinute g1 u rv1).1 (sX5_passMinute g1 u rv1).2 := rfl
    rw [e, e2]
    exact pm_cit d (i + 1) (sX5_passMinute g1 u rv1).1 (sX5_passMinute g1 u rv1).2
theorem rn_mit {q jb f : Nat → Int32} {m0 : Int32} {n : Nat} : ∀ (d i : Nat) (q1 jb1 f1 : Nat → Int32), lp_X8_runOn_7 q jb f m0 n d i q1 jb1 f1 = ((mit n d (q1, jb1, f1)).2.2 5 - f 5, (mit n d (q1, jb1, f1)).1, (mit n d (q1, jb1, f1)).2.1, (mit n d (q1, jb1, f1)).2.2)
  | 0, _, _, _, _ => rfl
  | d + 1, i, q1, jb1, f1 => by
    have e : mit n (d + 1) (q1, jb1, f1) = mit n d ((sX8_minuteOn q1 jb1 f1 n).1, (sX8_minuteOn q1 jb1 f1 n).2.1, (sX8_minuteOn q1 jb1 f1 n).2.2) := rfl
    have e2 : lp_X8_runOn_7 q jb f m0 n (d + 1) i q1 jb1 f1 = lp_X8_runOn_7 q jb f m0 n d (i + 1) (sX8_minuteOn q1 jb1 f1 n).1 (sX8_minuteOn q1 jb1 f1 n).2.1 (sX8_minuteOn q1 jb1 f1 n).2.2 := rfl
    rw [e, e2]
    exact rn_mit d (i + 1) (sX8_minuteOn q1 jb1 f1 n).1 (sX8_minuteOn q1 jb1 f1 n).2.1 (sX8_minuteOn q1 jb1 f1 n).2.2
theorem it_eq {u : Nat → Int32} {m : Nat} : ∀ (d B : Nat) (g : Nat → Int32) (rv : Nat → Nat → Int32) (q jb f : Nat → Int32), B + d ≤ 100001 → SM f g u rv → OKs B m f → SM (mit m d (q, jb, f)).2.2 (cit u d (g, rv)).1 u (cit u d (g, rv)).2 ∧ OKs (B + d) m (mit m d (q, jb, f)).2.2 ∧ (f 5).toInt ≤ ((mit m d (q, jb, f)).2.2 5).toInt
  | 0, B, g, rv, q, jb, f, _, sr, ok => ⟨sr, ok, Int.le_refl _⟩
  | d + 1, B, g, rv, q, jb, f, hB, sr, ok => by
    obtain ⟨h1, h2, h3⟩ := minute_eq (by omega) sr ok q jb
    have e1 : cit u (d + 1) (g, rv) = cit u d ((sX5_passMinute g u rv).1, (sX5_passMinute g u rv).2) := rfl
    have e2 : mit m (d + 1) (q, jb, f) = mit m d ((sX8_minuteOn q jb f m).1, (sX8_minuteOn q jb f m).2.1, (sX8_minuteOn q jb f m).2.2) := rfl
    rw [e1, e2, show B + (d + 1) = B + 1 + d by omega]
    obtain ⟨i1, i2, i3⟩ := it_eq d (B + 1) (sX5_passMinute g u rv).1 (sX5_passMinute g u rv).2 (sX8_minuteOn q jb f m).1 (sX8_minuteOn q jb f m).2.1 (sX8_minuteOn q jb f m).2.2 (by omega) h1 h2
    exact ⟨i1, i2, Int.le_trans h3 i3⟩
/-- only field 10 of the reference's object changes -/
def QK (q q' : Nat → Int32) : Prop := ∀ x, x ≠ 10 → q' x = q x
theorem QK.up {q q' : Nat → Int32} (h : QK q q') (v : Int32) : QK q (upd q' 10 v) := fun x hx => by rw [pk_un hx]; exact h x hx
theorem must_q {q0 jb f q : Nat → Int32} {n : Nat} : ∀ (d i : Nat) (q1 jb1 : Nat → Int32), QK q q1 → QK q (lp_X8_must_2 q0 jb f n d i q1 jb1).1
  | 0, _, _, _, h => h
  | d + 1, i, q1, jb1, h => must_q d (i + 1) _ _ (h.up _)
theorem conv_q {q0 jb f : Nat → Int32} {n : Nat} {z1 : (Nat → Int32) × (Nat → Int32)} {q2 jb2 q3 jb3 : Nat → Int32} : ∀ (d i : Nat) (jb1 : Nat → Int32), (lp_X8_find_149 q0 jb f n z1 q2 jb2 q3 jb3 d i jb1).1 = q3
  | 0, _, _ => rfl
  | d + 1, i, jb1 => conv_q d (i + 1) _
theorem l86_q {q0 jb f q : Nat → Int32} {n : Nat} {z1 : (Nat → Int32) × (Nat → Int32)} {q2 jb2 : Nat → Int32} : ∀ (d : Nat) (w : Option Nat) (q1 jb1 : Nat → Int32), QK q q1 → QK q (lp_X8_find_86 q0 jb f n z1 q2 jb2 d w q1 jb1).1
  | 0, _, _, _, h => h
  | d + 1, none, q1, jb1, h => by
    show QK q (sX8_find_x147 q0 jb f n z1 q2 jb2 q1 jb1).1
    unfold sX8_find_x147
    rw [conv_q]; exact h
  | d + 1, some k, q1, jb1, h => l86_q d _ _ _ (h.up _)
theorem l16_q {q0 jb f q : Nat → Int32} {n : Nat} {z1 : (Nat → Int32) × (Nat → Int32)} : ∀ (d : Nat) (w : Option Nat) (q1 jb1 : Nat → Int32), QK q q1 → QK q (lp_X8_find_16 q0 jb f n z1 d w q1 jb1).1
  | 0, _, _, _, h => h
  | d + 1, none, q1, jb1, h => l86_q 7 _ _ _ h
  | d + 1, some k, q1, jb1, h => l16_q d _ _ _ (h.up _)
theorem find_q (q jb f : Nat → Int32) (n : Nat) : QK q (sX8_find q jb f n).1 := l16_q 7 _ _ _ (must_q n 0 _ _ (QK.up (fun _ _ => rfl) 0))
theorem QK.trans {a b c : Nat → Int32} (h1 : QK a b) (h2 : QK b c) : QK a c := fun x hx => (h2 x hx).trans (h1 x hx)
theorem mo_q {q jb f : Nat → Int32} {n : Nat} {z1 : (Nat → Int32) × (Nat → Int32)} {z2 : Nat → Int32} : ∀ (d i : Nat) (f1 : Nat → Int32), (lp_X8_minuteOn_15 q jb f n z1 z2 d i f1).1 = z1.1
  | 0, _, _ => rfl
  | d + 1, i, f1 => mo_q d (i + 1) _
theorem minute_q (q jb f : Nat → Int32) (n : Nat) : QK q (sX8_minuteOn q jb f n).1 := by
  have e : (sX8_minuteOn q jb f n).1 = (sX8_find q jb f n).1 := mo_q n 0 _
  rw [e]; exact find_q q jb f n
theorem mit_q {m : Nat} : ∀ (d : Nat) (q jb f : Nat → Int32), QK q (mit m d (q, jb, f)).1
  | 0, _, _, _ => fun _ _ => rfl
  | d + 1, q, jb, f => by
    have e2 : mit m (d + 1) (q, jb, f) = mit m d ((sX8_minuteOn q jb f m).1, (sX8_minuteOn q jb f m).2.1, (sX8_minuteOn q jb f m).2.2) := rfl
    rw [e2]
    exact (minute_q q jb f m).trans (mit_q d (sX8_minuteOn q jb f m).1 (sX8_minuteOn q jb f m).2.1 (sX8_minuteOn q jb f m).2.2)
section COPY
variable {g u g2 u2 : Nat → Int32} {rv rv2 : Nat → Nat → Int32}
theorem cfl_eq {z1 : Nat → Int32} : ∀ (d i : Nat) (rv1 : Nat → Nat → Int32), i + d = 6 → (lp_X5_copyFrom_13 g u rv g2 u2 rv2 z1 d i rv1).1 = (upd (upd (upd (upd (upd (upd (upd (upd (upd g 1 (g2 1)) 2 (g2 2)) 3 (g2 3)) 4 (g2 4)) 5 (g2 5)) 6 (g2 6)) 7 (g2 7)) 8 (g2 8)) 9 (g2 9)) ∧ (lp_X5_copyFrom_13 g u rv g2 u2 rv2 z1 d i rv1).2.1 = z1 ∧ (∀ j, j < 6 → (lp_X5_copyFrom_13 g u rv g2 u2 rv2 z1 d i rv1).2.2 j = if i ≤ j then sX2_copyFrom (rv1 j) (rv2 j) else rv1 j)
  | 0, i, rv1, hd => ⟨rfl, rfl, fun j hj => by rw [if_neg (by omega)]; rfl⟩
  | d + 1, i, rv1, hd => by
    obtain ⟨h1, h2, h3⟩ := cfl_eq (z1 := z1) d (i + 1) (updR rv1 i (sX2_copyFrom (rv1 i) (rv2 i))) (by omega)
    refine ⟨h1, h2, fun j hj => ?_⟩
    refine (h3 j hj).trans ?_
    by_cases hij : j = i
    · subst hij
      rw [if_neg (by omega), if_pos (Nat.le_refl _), updR_s]
    · rw [updR_n hij]
      by_cases hle : i ≤ j
      · rw [if_pos hle, if_pos (by omega)]
      · rw [if_neg hle, if_neg (by omega)]
theorem cf_room (r r2 : Nat → Int32) : sX2_copyFrom r r2 0 = r 0 ∧ ∀ w, w < 8 → sX2_copyFrom r r2 (1 + w) = r2 (1 + w) := by
  unfold sX2_copyFrom
  refine ⟨by simp (disch := omega) only [pk_un, pk_us], fun w hw => ?_⟩
  refine eight (P := fun w => (upd (upd (upd (upd (upd (upd (upd (upd r 1 (r2 1)) 2 (r2 2)) 3 (r2 3)) 4 (r2 4)) 5 (r2 5)) 6 (r2 6)) 7 (r2 7)) 8 (r2 8)) (1 + w) = r2 (1 + w)) ?_ ?_ ?_ ?_ ?_ ?_ ?_ ?_ hw <;> simp (disch := omega) only [pk_un, pk_us, Nat.reduceAdd]
/-- a copied State holds what the other holds -/
theorem cf_sm {f : Nat → Int32} (sr : SM f g2 u2 rv2) (h0 : ∀ i, i < 6 → rv i 0 = nI i) : SM f (sX5_copyFrom g u rv g2 u2 rv2).1 (sX5_copyFrom g u rv g2 u2 rv2).2.1 (sX5_copyFrom g u rv g2 u2 rv2).2.2 := by
  obtain ⟨h1, h2, h3⟩ := cfl_eq (g := g) (u := u) (rv := rv) (g2 := g2) (u2 := u2) (rv2 := rv2) (z1 := sX3_copyFrom u u2) 6 0 rv rfl
  obtain ⟨s1, s2, s3, s4⟩ := sr
  have e : sX5_copyFrom g u rv g2 u2 rv2 = lp_X5_copyFrom_13 g u rv g2 u2 rv2 (sX3_copyFrom u u2) 6 0 rv := rfl
  rw [e]
  refine ⟨fun k hk1 hk2 => ?_, fun k hk => ?_, fun i hi => ?_, fun i w hi hw => ?_⟩
  · rw [h1, ← s1 k hk1 hk2]
    rcases (show k = 1 ∨ k = 2 ∨ k = 3 ∨ k = 4 ∨ k = 5 ∨ k = 6 ∨ k = 7 ∨ k = 8 ∨ k = 9 by omega) with rfl | rfl | rfl | rfl | rfl | rfl | rfl | rfl | rfl <;> simp (disch := omega) only [pk_un, pk_us]
  · rw [h2, ← s2 k hk]
    unfold sX3_copyFrom
    rcases (show k = 0 ∨ k = 1 ∨ k = 2 ∨ k = 3 ∨ k = 4 ∨ k = 5 by omega) with rfl | rfl | rfl | rfl | rfl | rfl <;> simp (disch := omega) only [pk_un, pk_us]
  · rw [h3 i hi, if_pos (Nat.zero_le _), (cf_room _ _).1]; exact h0 i hi
  · rw [h3 i hi, if_pos (Nat.zero_le _), (cf_room _ _).2 w hw]; exact s4 i w hi hw
theorem cf_0 (h0 : ∀ i, i < 6 → rv i 0 = nI i) {i : Nat} (hi : i < 6) : (sX5_copyFrom g u rv g2 u2 rv2).2.2 i 0 = nI i := by
  obtain ⟨-, -, h3⟩ := cfl_eq (g := g) (u := u) (rv := rv) (g2 := g2) (u2 := u2) (rv2 := rv2) (z1 := sX3_copyFrom u u2) 6 0 rv rfl
  have e : sX5_copyFrom g u rv g2 u2 rv2 = lp_X5_copyFrom_13 g u rv g2 u2 rv2 (sX3_copyFrom u u2) 6 0 rv := rfl
  rw [e, h3 i hi, if_pos (Nat.zero_le _), (cf_room _ _).1]; exact h0 i hi
end COPY
theorem cps_eq {p0 q0 : Nat} {f f2 : Nat → Int32} : ∀ (d i : Nat) (f3 : Nat → Int32) (x : Nat), i + d = 64 → lp_X8_copyState_3 p0 q0 f f2 d i f3 x = if q0 + i ≤ x ∧ x < q0 + 64 then f (p0 + (x - q0)) else f3 x
  | 0, i, f3, x, hd => by rw [if_neg (by omega)]; rfl
  | d + 1, i, f3, x, hd => by
    refine (cps_eq d (i + 1) (upd f3 (q0 + i) (f (p0 + i))) x (by omega)).trans ?_
    by_cases h : x = q0 + i
    · subst h
      rw [if_neg (by omega), if_pos (by omega), pk_us, show q0 + i - q0 = i by omega]
    · rw [pk_un h]
      by_cases h2 : q0 + i ≤ x ∧ x < q0 + 64
      · rw [if_pos h2, if_pos (by omega)]
      · rw [if_neg h2, if_neg (by omega)]
theorem cp_in {p0 q0 : Nat} {f f2 : Nat → Int32} {k : Nat} (hk : k < 64) : sX8_copyState p0 q0 f f2 (q0 + k) = f (p0 + k) := by
  refine (cps_eq 64 0 f2 (q0 + k) rfl).trans ?_
  rw [if_pos (by omega), show q0 + k - q0 = k by omega]
theorem cp_out {p0 q0 : Nat} {f f2 : Nat → Int32} {x : Nat} (h : x < q0 ∨ q0 + 64 ≤ x) : sX8_copyState p0 q0 f f2 x = f2 x := by
  refine (cps_eq 64 0 f2 x rfl).trans ?_
  rw [if_neg (by omega)]
/-- what both look at lies below 64 -/
theorem SM.cg {f f' g u : Nat → Int32} {rv : Nat → Nat → Int32} (h : ∀ x, x < 64 → f' x = f x) (sr : SM f g u rv) : SM f' g u rv :=
  ⟨fun k h1 h2 => (sr.1 k h1 h2).trans (h k (by omega)).symm, fun k hk => (sr.2.1 k hk).trans (h _ (by omega)).symm, sr.2.2.1, fun i w hi hw => (sr.2.2.2 i w hi hw).trans (h _ (by omega)).symm⟩
theorem OKs.cg {B m : Nat} {f f' : Nat → Int32} (h : ∀ x, x < 64 → f' x = f x) (ok : OKs B m f) : OKs B m f' := by
  obtain ⟨a1, a2, a3, a4, a5, a6, a7, a8, a9, a10, a11⟩ := ok
  refine ⟨a1, ?_, ?_, ?_, ?_, ?_, ?_, ?_, ?_, ?_, fun i hi => ?_⟩
  · rw [h 0 (by decide)]; exact a2
  · rw [h 10 (by decide)]; exact a3
  · rw [h 11 (by decide)]; exact a4
  · rw [h 12 (by decide)]; exact a5
  · rw [h 13 (by decide)]; exact a6
  · rw [h 14 (by decide)]; exact a7
  · rw [h 15 (by decide)]; exact a8
  · rw [h 1 (by decide)]; exact a9
  · rw [h 2 (by decide), h 1 (by decide), h 5 (by decide)]; exact a10
  · have o := a11 i hi
    unfold RO at o ⊢
    rw [h _ (by omega), h _ (by omega), h _ (by omega), h _ (by omega), h _ (by omega)]
    exact o
theorem OKs.mono {B B' m : Nat} {f : Nat → Int32} (h : B ≤ B') (ok : OKs B m f) : OKs B' m f := by
  obtain ⟨a1, a2, a3, a4, a5, a6, a7, a8, a9, a10, a11⟩ := ok
  exact ⟨a1, a2, a3, a4, a5, a6, a7, a8, ⟨a9.1, by omega⟩, a10, a11⟩
theorem sm_zb {B m : Nat} {f g u : Nat → Int32} {rv : Nat → Nat → Int32} (sr : SM f g u rv) (ok : OKs B m f) : ∀ i, i < 6 → zb (rv i 5) := fun i hi => by
  rw [show rv i 5 = f (16 + 8 * i + 4) from sr.2.2.2 i 4 hi (by decide)]
  exact (ok.2.2.2.2.2.2.2.2.2.2 i hi).2.2.1
