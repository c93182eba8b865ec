/-! PURE: what the rooms do in a minute -/
def pl (x : Int32) : Int32 := if x = 8 then 7 else x
def cod (x : Int32) : Prop := x = 0 ∨ x = 1 ∨ x = 2 ∨ x = 3 ∨ x = 4 ∨ x = 5 ∨ x = 6 ∨ x = 8
theorem cod_7 {x : Int32} (h : cod x) : ¬ x = 7 := by
  rcases h with h | h | h | h | h | h | h | h <;> rw [h] <;> decide
theorem pl_8 : pl 8 = 7 := rfl
theorem pl_n {x : Int32} (h : ¬ x = 8) : pl x = x := if_neg h
def JP (m : Nat) (rv1 : Nat → Nat → Int32) (jb : Nat → Int32) : Prop := (∀ j, j < m → cod (jb j) ∧ rv1 j 9 = pl (jb j)) ∧ ∀ j, m ≤ j → j < 6 → rv1 j 9 = 8
def H9 (rv rv1 : Nat → Nat → Int32) : Prop := ∀ j w, w < 9 → rv1 j w = rv j w
def mst (f : Nat → Int32) (i : Nat) : Int32 := if (if sX8_of f i 6 ≤ 0 then 0 else 1 : Int32) = 0 then (if sX8_isWarm f i = 0 then (if sX8_of f i 5 = 100 then 2 else 8) else 1) else 0
def mtk (f : Nat → Int32) (i : Nat) (x : Int32) : Int32 := if x = 8 then 0 else if x = 1 then sX8_of f i 0 else f 13
theorem mst_c (f : Nat → Int32) (i : Nat) : mst f i = 0 ∨ mst f i = 1 ∨ mst f i = 2 ∨ mst f i = 8 := by
  unfold mst
  by_cases h1 : (if sX8_of f i 6 ≤ 0 then 0 else 1 : Int32) = 0
  · rw [if_pos h1]
    by_cases h2 : sX8_isWarm f i = 0
    · rw [if_pos h2]
      by_cases h3 : sX8_of f i 5 = 100
      · rw [if_pos h3]; exact Or.inr (Or.inr (Or.inl rfl))
      · rw [if_neg h3]; exact Or.inr (Or.inr (Or.inr rfl))
    · rw [if_neg h2]; exact Or.inr (Or.inl rfl)
  · rw [if_neg h1]; exact Or.inl rfl
theorem ih_e (r : Nat → Int32) (p : Int32) : sX2_isHeated (upd r 9 p) = (if p = 0 then 1 else if p = 2 then 1 else if p = 5 then 1 else 0) := by
  unfold sX2_isHeated
  rw [pk_us]
theorem ic_e (r : Nat → Int32) (p : Int32) : sX2_isCooled (upd r 9 p) = (if p = 1 then 1 else if p = 3 then 1 else 0) := by
  unfold sX2_isCooled
  rw [pk_us]
section P2
variable {f g u : Nat → Int32} {rv : Nat → Nat → Int32} {B m : Nat}
theorem SM.at (sr : SM f g u rv) {rv1 : Nat → Nat → Int32} (h9 : H9 rv rv1) {i w : Nat} (hi : i < 6) (hw : w < 8) : rv1 i (1 + w) = f (16 + 8 * i + w) := (h9 i (1 + w) (by omega)).trans (sr.2.2.2 i w hi hw)
theorem must_room (sr : SM f g u rv) (ok : OKs B m f) {rv1 : Nat → Nat → Int32} (h9 : H9 rv rv1) {i : Nat} (hi : i < m) : sX2_planMust (rv1 i) = pl (mst f i) := by
  have h6 : i < 6 := by have := ok.1; omega
  obtain ⟨ho, -, -, hf0, hf1, -⟩ := ok.2.2.2.2.2.2.2.2.2.2 i h6
  obtain ⟨hl1, -⟩ := ho hi
  have e1 : rv1 i 1 = f (16 + 8 * i + 0) := sr.at h9 h6 (w := 0) (by decide)
  have e3 : rv1 i 3 = f (16 + 8 * i + 2) := sr.at h9 h6 (w := 2) (by decide)
  have e4 : rv1 i 4 = f (16 + 8 * i + 3) := sr.at h9 h6 (w := 3) (by decide)
  have e6 : rv1 i 6 = f (16 + 8 * i + 5) := sr.at h9 h6 (w := 5) (by decide)
  have e7 : rv1 i 7 = f (16 + 8 * i + 6) := sr.at h9 h6 (w := 6) (by decide)
  have h0 : ¬ f (16 + 8 * i + 0) = 0 := by
    intro q
    have q2 : f (16 + 8 * i) = 0 := q
    rw [q2] at hl1
    exact absurd hl1 (by decide)
  have hc : (100 : Int32).toInt = 100 := rfl
  unfold sX2_planMust mst sX8_isWarm sX8_of
  rw [e1, e3, e4, e6, e7, if_neg h0]
  by_cases h7 : f (16 + 8 * i + 6) ≤ 0
  · rw [if_pos h7, if_pos h7, if_pos rfl]
    by_cases hw : f (16 + 8 * i + 3) < f (16 + 8 * i + 2)
    · rw [if_pos hw, if_pos hw, if_pos rfl]
      by_cases hf : f (16 + 8 * i + 5) < 100
      · have hn : ¬ f (16 + 8 * i + 5) = 100 := fun q => by rw [q] at hf; exact absurd hf (by decide)
        rw [if_pos hf, if_neg hn]; rfl
      · have hp : f (16 + 8 * i + 5) = 100 := by
          rw [lt_i, hc] at hf
          rw [eq_i, hc]; omega
        rw [if_neg hf, if_pos hp]; rfl
    · rw [if_neg hw, if_neg hw, if_neg (by decide)]; rfl
  · rw [if_neg h7, if_neg h7, if_neg (by decide)]; rfl
theorem must_take (sr : SM f g u rv) (ok : OKs B m f) {rv1 : Nat → Nat → Int32} (h9 : H9 rv rv1) {i : Nat} (hi : i < m) (t : Int32) :
    (if sX2_isHeated (upd (rv1 i) 9 (pl (mst f i))) = 0 then (if sX2_isCooled (upd (rv1 i) 9 (pl (mst f i))) = 0 then t else t + rv1 i 1) else t + u 3) = t + mtk f i (mst f i) := by
  have h6 : i < 6 := by have := ok.1; omega
  have e1 : rv1 i 1 = f (16 + 8 * i + 0) := sr.at h9 h6 (w := 0) (by decide)
  have e3 : u 3 = f 13 := sr.2.1 3 (by decide)
  rw [ih_e, ic_e, e1, e3]
  unfold mtk sX8_of
  rcases mst_c f i with h | h | h | h <;> rw [h]
  · rw [if_neg (by decide), if_neg (by decide), if_neg (by decide)]
  · rw [if_pos (by decide), if_neg (by decide), if_neg (by decide), if_pos rfl]
  · rw [if_neg (by decide), if_neg (by decide), if_neg (by decide)]
  · rw [if_pos (by decide), if_pos (by decide), if_pos rfl, Int32.add_zero]
theorem H9.up {rv1 : Nat → Nat → Int32} (h : H9 rv rv1) (k : Nat) (x : Int32) : H9 rv (updR rv1 k (upd (rv1 k) 9 x)) := by
  intro j w hw
  by_cases hj : j = k
  · subst hj
    rw [updR_s, pk_un (by omega)]
    exact h j w hw
  · rw [updR_n hj]; exact h j w hw
theorem up_9 (rv1 : Nat → Nat → Int32) (k : Nat) (x : Int32) : updR rv1 k (upd (rv1 k) 9 x) k 9 = x := by rw [updR_s, pk_us]
theorem JP.up {rv1 : Nat → Nat → Int32} {jb : Nat → Int32} (h : JP m rv1 jb) {k : Nat} (hk : k < m) {x : Int32} (hc : cod x) (h8 : ¬ x = 8) : JP m (updR rv1 k (upd (rv1 k) 9 x)) (upd jb k x) := by
  refine ⟨fun j hj => ?_, fun j h1 h2 => ?_⟩
  · by_cases hjk : j = k
    · subst hjk
      rw [pk_us, up_9, pl_n h8]
      exact ⟨hc, rfl⟩
    · rw [pk_un hjk, updR_n hjk]
      exact h.1 j hj
  · rw [updR_n (by omega)]
    exact h.2 j h1 h2
theorem oc_up {jb : Nat → Int32} {k : Nat} {x : Int32} : ∀ {n : Nat}, n ≤ k → oc (upd jb k x) n = oc jb n := oc_out
theorem tk_b (ok : OKs B m f) {i : Nat} (hi : i < m) : 0 ≤ (mtk f i (mst f i)).toInt ∧ (mtk f i (mst f i)).toInt ≤ 50 ∧ (mst f i = 8 → (mtk f i (mst f i)).toInt = 0) := by
  have h6 : i < 6 := by have := ok.1; omega
  obtain ⟨hl1, hl2⟩ := (ok.2.2.2.2.2.2.2.2.2.2 i h6).1 hi
  obtain ⟨h13, h13'⟩ := ok.2.2.2.2.2.1
  have e0 : (0 : Int32).toInt = 0 := rfl
  unfold mtk sX8_of
  rcases mst_c f i with h | h | h | h <;> rw [h]
  · rw [if_neg (by decide), if_neg (by decide)]; exact ⟨by omega, h13', fun q => absurd q (by decide)⟩
  · rw [if_neg (by decide), if_pos rfl]
    show 0 ≤ (f (16 + 8 * i)).toInt ∧ (f (16 + 8 * i)).toInt ≤ 50 ∧ _
    exact ⟨by omega, hl2, fun q => absurd q (by decide)⟩
  · rw [if_neg (by decide), if_neg (by decide)]; exact ⟨by omega, h13', fun q => absurd q (by decide)⟩
  · rw [if_pos rfl, e0]; exact ⟨by omega, by omega, fun _ => rfl⟩
theorem must_eq (sr : SM f g u rv) (ok : OKs B m f) (q jb : Nat → Int32) : ∀ (d i : Nat) (t : Int32) (rv1 : Nat → Nat → Int32) (q1 jb1 : Nat → Int32), i + d = 6 → H9 rv rv1 → t = q1 10 →
    (∀ j, j < i → j < m → cod (jb1 j) ∧ rv1 j 9 = pl (jb1 j)) → (∀ j, m ≤ j → j < i → rv1 j 9 = 8) → 0 ≤ t.toInt → (∀ n, n = min i m → t.toInt + 50 * (oc jb1 n : Int) ≤ 50 * (n : Int)) →
    (lp_X5_planMusts_13 g u rv d i t rv1).1 = (lp_X8_must_2 q jb f m (m - i) i q1 jb1).1 10 ∧ H9 rv (lp_X5_planMusts_13 g u rv d i t rv1).2 ∧ JP m (lp_X5_planMusts_13 g u rv d i t rv1).2 (lp_X8_must_2 q jb f m (m - i) i q1 jb1).2 ∧ 0 ≤ (lp_X5_planMusts_13 g u rv d i t rv1).1.toInt ∧ (lp_X5_planMusts_13 g u rv d i t rv1).1.toInt + 50 * (oc (lp_X8_must_2 q jb f m (m - i) i q1 jb1).2 m : Int) ≤ 50 * (m : Int)
  | 0, i, t, rv1, q1, jb1, hd, h9, ht, hj, hj2, h0, hb => by
    have hm := ok.1
    have hi : i = 6 := by omega
    subst hi
    rw [show m - 6 = 0 by omega]
    refine ⟨ht, h9, ⟨fun j h => hj j (by omega) h, fun j h1 h2 => hj2 j h1 h2⟩, h0, ?_⟩
    exact hb m (by omega)
  | d + 1, i, t, rv1, q1, jb1, hd, h9, ht, hj, hj2, h0, hb => by
    have hm := ok.1
    by_cases hi : i < m
    · rw [show m - i = (m - (i + 1)) + 1 by omega]
      have e1 : lp_X5_planMusts_13 g u rv (d + 1) i t rv1 = lp_X5_planMusts_13 g u rv d (i + 1) (t + mtk f i (mst f i)) (updR rv1 i (upd (rv1 i) 9 (pl (mst f i)))) := by
        rw [← must_take sr ok h9 hi t, ← must_room sr ok h9 hi]
        rfl
      have e2 : lp_X8_must_2 q jb f m ((m - (i + 1)) + 1) i q1 jb1 = lp_X8_must_2 q jb f m (m - (i + 1)) (i + 1) (upd q1 10 (q1 10 + mtk f i (mst f i))) (upd jb1 i (mst f i)) := by
        show lp_X8_must_2 q jb f m (m - (i + 1)) (i + 1) (upd q1 10 (q1 10 + mtk f i (upd jb1 i (mst f i) i))) (upd jb1 i (mst f i)) = _
        rw [pk_us]
      rw [e1, e2]
      obtain ⟨b1, b2, b3⟩ := tk_b ok hi
      have hb' := hb i (by omega)
      have hoc := oc_le jb1 i
      have eT : (t + mtk f i (mst f i)).toInt = t.toInt + (mtk f i (mst f i)).toInt := ia (by omega) (by omega)
      refine must_eq sr ok q jb d (i + 1) _ _ _ _ (by omega) (h9.up i _) (by rw [pk_us, ht]) (fun j h1 h2 => ?_) (fun j h1 h2 => ?_) (by rw [eT]; omega) (fun n hn => ?_)
      · by_cases hji : j = i
        · subst hji
          rw [pk_us, up_9]
          refine ⟨?_, rfl⟩
          rcases mst_c f j with h | h | h | h <;> rw [h] <;> simp [cod]
        · rw [pk_un hji, updR_n hji]
          exact hj j (by omega) h2
      · rw [updR_n (by omega)]
        exact hj2 j h1 (by omega)
      · have hn2 : n = i + 1 := by omega
        subst hn2
        show _ + 50 * ((oc (upd jb1 i (mst f i)) i + (if upd jb1 i (mst f i) i = 8 then 1 else 0) : Nat) : Int) ≤ _
        rw [oc_out (Nat.le_refl _), pk_us, eT]
        by_cases h8 : mst f i = 8
        · rw [if_pos h8]; have := b3 h8; omega
        · rw [if_neg h8]; omega
    · rw [show m - i = 0 by omega]
      have h6 : i < 6 := by omega
      have hl : f (16 + 8 * i) = 0 := (ok.2.2.2.2.2.2.2.2.2.2 i h6).2.1 (by omega)
      have e1' : rv1 i 1 = 0 := (sr.at h9 h6 (w := 0) (by decide)).trans hl
      have ep : sX2_planMust (rv1 i) = 8 := by unfold sX2_planMust; rw [if_pos e1']
      have e1 : lp_X5_planMusts_13 g u rv (d + 1) i t rv1 = lp_X5_planMusts_13 g u rv d (i + 1) t (updR rv1 i (upd (rv1 i) 9 8)) := by
        show lp_X5_planMusts_13 g u rv d (i + 1) (if sX2_isHeated (upd (rv1 i) 9 (sX2_planMust (rv1 i))) = 0 then (if sX2_isCooled (upd (rv1 i) 9 (sX2_planMust (rv1 i))) = 0 then t else t + rv1 i 1) else t + u 3) (updR rv1 i (upd (rv1 i) 9 (sX2_planMust (rv1 i)))) = _
        rw [ep, ih_e, ic_e, if_pos (by decide), if_pos (by decide)]
      have h := must_eq sr ok q jb d (i + 1) t (updR rv1 i (upd (rv1 i) 9 8)) q1 jb1 (by omega) (h9.up i _) ht (fun j h1 h2 => by rw [updR_n (by omega)]; exact hj j (by omega) h2) (fun j h1 h2 => ?_) h0 (fun n hn => hb n (by omega))
      · rw [show m - (i + 1) = 0 by omega] at h
        rw [e1]
        exact h
      · by_cases hji : j = i
        · subst hji; exact up_9 _ _ _
        · rw [updR_n hji]; exact hj2 j h1 (by omega)
theorem over_e (sr : SM f g u rv) {rv1 : Nat → Nat → Int32} (h9 : H9 rv rv1) {i : Nat} (hi : i < 6) : rv1 i 4 - rv1 i 2 = sX8_over f i := by
  have e2 : rv1 i 2 = f (16 + 8 * i + 1) := sr.at h9 hi (w := 1) (by decide)
  have e4 : rv1 i 4 = f (16 + 8 * i + 3) := sr.at h9 hi (w := 3) (by decide)
  rw [e2, e4]
  rfl
theorem cool_eq (sr : SM f g u rv) (hm : m ≤ 6) {rv1 : Nat → Nat → Int32} {jb : Nat → Int32} (h9 : H9 rv rv1) (jp : JP m rv1 jb) : ∀ (d i : Nat) (w : Option Nat) (mx : Int32), i + d = 6 → (w = none → mx = 0) → (∀ k, w = some k → mx = sX8_over f k ∧ 0 < sX8_over f k) →
    lp_X5_nextToCool_16 g u rv1 d i w mx = lp_X8_nextWarm_4 jb f m (m - i) i w
  | 0, i, w, mx, hd, h1, h2 => by
    rw [show m - i = 0 by omega]
    cases w <;> rfl
  | d + 1, i, w, mx, hd, h1, h2 => by
    by_cases hi : i < m
    · rw [show m - i = (m - (i + 1)) + 1 by omega]
      show (if rv1 i 9 = 7 then (if rv1 i 4 - rv1 i 2 ≤ mx then lp_X5_nextToCool_16 g u rv1 d (i + 1) w mx else lp_X5_nextToCool_16 g u rv1 d (i + 1) (some i) (rv1 i 4 - rv1 i 2)) else lp_X5_nextToCool_16 g u rv1 d (i + 1) w mx) = (if jb i = 8 then (if sX8_over f i ≤ 0 then (oe w (lp_X8_nextWarm_4 jb f m (m - (i + 1)) (i + 1) none) (fun k_3 => (lp_X8_nextWarm_4 jb f m (m - (i + 1)) (i + 1) (some k_3)))) else (oe w (lp_X8_nextWarm_4 jb f m (m - (i + 1)) (i + 1) (some i)) (fun k_4 => (if (sX8_over f i) ≤ (sX8_over f k_4) then (lp_X8_nextWarm_4 jb f m (m - (i + 1)) (i + 1) (some k_4)) else (lp_X8_nextWarm_4 jb f m (m - (i + 1)) (i + 1) (some i)))))) else (oe w (lp_X8_nextWarm_4 jb f m (m - (i + 1)) (i + 1) none) (fun k_2 => (lp_X8_nextWarm_4 jb f m (m - (i + 1)) (i + 1) (some k_2)))))
      rw [over_e sr h9 (show i < 6 by omega)]
      obtain ⟨hc, hp⟩ := jp.1 i hi
      by_cases h8 : jb i = 8
      · rw [if_pos h8, if_pos (by rw [hp, h8]; rfl)]
        cases w with
        | none =>
          rw [h1 rfl]
          by_cases ho : sX8_over f i ≤ 0
          · rw [if_pos ho, if_pos ho]
            exact cool_eq sr hm h9 jp d (i + 1) none 0 (by omega) (fun _ => rfl) (fun k h => by cases h)
          · rw [if_neg ho, if_neg ho]
            exact cool_eq sr hm h9 jp d (i + 1) (some i) _ (by omega) (fun h => by cases h) (fun k h => by cases h; exact ⟨rfl, Int32.not_le.mp ho⟩)
        | some k =>
          obtain ⟨hk1, hk2⟩ := h2 k rfl
          rw [hk1]
          have ek := cool_eq sr hm h9 jp d (i + 1) (some k) (sX8_over f k) (by omega) (fun h => by cases h) (fun k' h => by cases h; exact ⟨rfl, hk2⟩)
          by_cases ho : sX8_over f i ≤ 0
          · rw [if_pos ho, if_pos (Int32.le_trans ho (Int32.le_of_lt hk2))]
            exact ek
          · rw [if_neg ho]
            show _ = (if sX8_over f i ≤ sX8_over f k then _ else _)
            by_cases hk : sX8_over f i ≤ sX8_over f k
            · rw [if_pos hk, if_pos hk]; exact ek
            · rw [if_neg hk, if_neg hk]
              exact cool_eq sr hm h9 jp d (i + 1) (some i) _ (by omega) (fun h => by cases h) (fun k' h => by cases h; exact ⟨rfl, Int32.not_le.mp ho⟩)
      · have hn7 : ¬ rv1 i 9 = 7 := by rw [hp, pl_n h8]; exact cod_7 hc
        rw [if_neg h8, if_neg hn7]
        have e := cool_eq sr hm h9 jp d (i + 1) w mx (by omega) h1 h2
        rw [e]
        cases w <;> rfl
    · have h8 : rv1 i 9 = 8 := jp.2 i (by omega) (by omega)
      have e := cool_eq sr hm h9 jp d (i + 1) w mx (by omega) h1 h2
      rw [show m - (i + 1) = 0 by omega] at e
      rw [show m - i = 0 by omega]
      show (if rv1 i 9 = 7 then _ else lp_X5_nextToCool_16 g u rv1 d (i + 1) w mx) = _
      rw [if_neg (by rw [h8]; decide), e]
      cases w <;> rfl
theorem thick_i (ok : OKs B m f) (x : Int32) : x ≤ f 14 - 1 ↔ x < f 14 := by
  obtain ⟨h1, h2⟩ := ok.2.2.2.2.2.2.1
  have e1 : (1 : Int32).toInt = 1 := rfl
  rw [le_i, lt_i, is_ (by omega) (by omega)]
  omega
theorem frost_eq (sr : SM f g u rv) (ok : OKs B m f) {rv1 : Nat → Nat → Int32} {jb : Nat → Int32} (h9 : H9 rv rv1) (jp : JP m rv1 jb) : ∀ (d i : Nat) (w : Option Nat) (mx : Int32), i + d = 6 → (w = none → mx = f 14 - 1) → (∀ k, w = some k → mx = sX8_of f k 5 ∧ ¬ sX8_of f k 5 < f 14) →
    lp_X5_nextToDefrost_24 g u rv1 d i w mx = lp_X8_nextFrost_4 jb f m (m - i) i w
  | 0, i, w, mx, hd, h1, h2 => by
    rw [show m - i = 0 by have := ok.1; omega]
    cases w <;> rfl
  | d + 1, i, w, mx, hd, h1, h2 => by
    have hm := ok.1
    by_cases hi : i < m
    · rw [show m - i = (m - (i + 1)) + 1 by omega]
      show (if rv1 i 9 = 7 then (if rv1 i 6 ≤ mx then lp_X5_nextToDefrost_24 g u rv1 d (i + 1) w mx else lp_X5_nextToDefrost_24 g u rv1 d (i + 1) (some i) (rv1 i 6)) else lp_X5_nextToDefrost_24 g u rv1 d (i + 1) w mx) = (if jb i = 8 then (if sX8_of f i 5 < f 14 then (oe w (lp_X8_nextFrost_4 jb f m (m - (i + 1)) (i + 1) none) (fun k_3 => (lp_X8_nextFrost_4 jb f m (m - (i + 1)) (i + 1) (some k_3)))) else (oe w (lp_X8_nextFrost_4 jb f m (m - (i + 1)) (i + 1) (some i)) (fun k_4 => (if (sX8_of f i 5) ≤ (sX8_of f k_4 5) then (lp_X8_nextFrost_4 jb f m (m - (i + 1)) (i + 1) (some k_4)) else (lp_X8_nextFrost_4 jb f m (m - (i + 1)) (i + 1) (some i)))))) else (oe w (lp_X8_nextFrost_4 jb f m (m - (i + 1)) (i + 1) none) (fun k_2 => (lp_X8_nextFrost_4 jb f m (m - (i + 1)) (i + 1) (some k_2)))))
      have e6 : rv1 i 6 = sX8_of f i 5 := sr.at h9 (show i < 6 by omega) (w := 5) (by decide)
      rw [e6]
      obtain ⟨hc, hp⟩ := jp.1 i hi
      by_cases h8 : jb i = 8
      · rw [if_pos h8, if_pos (by rw [hp, h8]; rfl)]
        cases w with
        | none =>
          rw [h1 rfl]
          by_cases ho : sX8_of f i 5 < f 14
          · rw [if_pos ho, if_pos ((thick_i ok _).mpr ho)]
            exact frost_eq sr ok h9 jp d (i + 1) none _ (by omega) (fun _ => rfl) (fun k h => by cases h)
          · rw [if_neg ho, if_neg (fun q => ho ((thick_i ok _).mp q))]
            exact frost_eq sr ok h9 jp d (i + 1) (some i) _ (by omega) (fun h => by cases h) (fun k h => by cases h; exact ⟨rfl, ho⟩)
        | some k =>
          obtain ⟨hk1, hk2⟩ := h2 k rfl
          rw [hk1]
          have ek := frost_eq sr ok h9 jp d (i + 1) (some k) (sX8_of f k 5) (by omega) (fun h => by cases h) (fun k' h => by cases h; exact ⟨rfl, hk2⟩)
          by_cases ho : sX8_of f i 5 < f 14
          · rw [if_pos ho, if_pos (Int32.le_of_lt (Int32.lt_of_lt_of_le ho (Int32.not_lt.mp hk2)))]
            exact ek
          · rw [if_neg ho]
            show _ = (if sX8_of f i 5 ≤ sX8_of f k 5 then _ else _)
            by_cases hk : sX8_of f i 5 ≤ sX8_of f k 5
            · rw [if_pos hk, if_pos hk]; exact ek
            · rw [if_neg hk, if_neg hk]
              exact frost_eq sr ok h9 jp d (i + 1) (some i) _ (by omega) (fun h => by cases h) (fun k' h => by cases h; exact ⟨rfl, ho⟩)
      · have hn7 : ¬ rv1 i 9 = 7 := by rw [hp, pl_n h8]; exact cod_7 hc
        rw [if_neg h8, if_neg hn7]
        have e := frost_eq sr ok h9 jp d (i + 1) w mx (by omega) h1 h2
        rw [e]
        cases w <;> rfl
    · have h8 : rv1 i 9 = 8 := jp.2 i (by omega) (by omega)
      have e := frost_eq sr ok h9 jp d (i + 1) w mx (by omega) h1 h2
      rw [show m - (i + 1) = 0 by omega] at e
      rw [show m - i = 0 by omega]
      show (if rv1 i 9 = 7 then _ else lp_X5_nextToDefrost_24 g u rv1 d (i + 1) w mx) = _
      rw [if_neg (by rw [h8]; decide), e]
      cases w <;> rfl
theorem oc_pos {jb : Nat → Int32} {k : Nat} : ∀ {n : Nat}, k < n → jb k = 8 → 1 ≤ oc jb n
  | n + 1, h, h8 => by
    show 1 ≤ oc jb n + (if jb n = 8 then 1 else 0)
    by_cases hk : k = n
    · subst hk; rw [if_pos h8]; omega
    · have := oc_pos (n := n) (by omega) h8; omega
end P2
