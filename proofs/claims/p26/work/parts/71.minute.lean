/-! PURE: what a minute does to a room -/
def Tn (f : Nat → Int32) (x : Int32) (i : Nat) : Int32 := sX8_clamp (f (16 + 8 * i + 3) + (if hot x = 0 then (if cold x = 0 then 1 else f (16 + 8 * i + 5) / 20 - 8) else 6) + (if f (16 + 8 * i + 4) = 0 then 0 else 4)) (-400) 400
def Fn (f : Nat → Int32) (x : Int32) (i : Nat) : Int32 := if hot x = 0 then sX8_clamp (f (16 + 8 * i + 5) + (if cold x = 0 then 0 else 1) + (if f (16 + 8 * i + 4) = 0 then 0 else 2)) 0 100 else sX8_clamp (f (16 + 8 * i + 5) - 10) 0 100
def Ln (f : Nat → Int32) (x : Int32) (i : Nat) : Int32 := if hot x = 0 then f (16 + 8 * i + 6) else if sX8_clamp (f (16 + 8 * i + 5) - 10) 0 100 = 0 then 0 else (if x = 0 then f (16 + 8 * i + 6) else f 15) - 1
def RMI (f M : Nat → Int32) (x : Int32) (i : Nat) : Prop :=
  M (16 + 8 * i) = f (16 + 8 * i) ∧ M (16 + 8 * i + 1) = f (16 + 8 * i + 1) ∧ M (16 + 8 * i + 2) = f (16 + 8 * i + 2) ∧ M (16 + 8 * i + 3) = Tn f x i ∧ M (16 + 8 * i + 4) = f (16 + 8 * i + 4) ∧ M (16 + 8 * i + 5) = Fn f x i ∧ M (16 + 8 * i + 6) = Ln f x i ∧ M (16 + 8 * i + 7) = f (16 + 8 * i + 7) + (if cold x = 0 then 0 else 1)
theorem rmi_of {f M : Nat → Int32} {x : Int32} {i : Nat} {T Fr L c b w l : Int32} (h : RESM f M i T Fr L c b w l) (hT : T = Tn f x i) (hF : Fr = Fn f x i) (hL : L = Ln f x i) (hc : c = (if cold x = 0 then 0 else 1)) : RMI f M x i := by
  obtain ⟨m1, m2, c0, c1, c2, c3, c4, c5, c6, c7, -⟩ := h
  exact ⟨c0, c1, c2, by rw [c3, hT], c4, by rw [c5, hF], by rw [c6, hL], by rw [c7, hc]⟩
/-- one room's minute: only its own cells, and the accounts 6 to 9 -/
theorem room_res {f jb : Nat → Int32} {i : Nat} (hp : cod7 (jb i)) (hz : zb (f (16 + 8 * i + 4))) : (∀ x, x < 6 → sX8_roomOn jb f i x = f x) ∧ (∀ x, 10 ≤ x → (x < 16 + 8 * i ∨ 16 + 8 * i + 8 ≤ x) → sX8_roomOn jb f i x = f x) ∧ RMI f (sX8_roomOn jb f i) (jb i) i := by
  have hx : ∀ a b : Int32, (if (if sX8_of f i 4 = 1 then 1 else 0 : Int32) = 0 then a else b) = (if f (16 + 8 * i + 4) = 0 then a else b) := by
    intro a b
    unfold sX8_of
    rcases hz with q | q <;> rw [q]
    · rw [if_neg (show ¬ (0 : Int32) = 1 by decide)]
    · rw [if_pos (show (1 : Int32) = 1 from rfl)]
  have COOL : (jb i = 1 ∨ jb i = 3) → _ := fun q => m_un f i (if sX8_of f i 4 = 1 then 1 else 0) (sX8_of f i 5 / 20 - 8) 1 (if jb i = 4 then 1 else 0) (if jb i = 6 then 1 else 0)
  by_cases q1 : jb i = 1 ∨ jb i = 3
  · have h := COOL q1
    rw [mu_cool jb f i q1]
    rw [hx, hx] at h
    have c0 : hot (jb i) = 0 := by rcases q1 with q | q <;> rw [q] <;> decide
    have c1 : cold (jb i) = 1 := by rcases q1 with q | q <;> rw [q] <;> decide
    refine ⟨h.1, h.2.1, rmi_of h ?_ ?_ ?_ ?_⟩
    · unfold Tn; rw [if_pos c0, c1, if_neg (show ¬ (1 : Int32) = 0 by decide)]; rfl
    · unfold Fn; rw [if_pos c0, c1, if_neg (show ¬ (1 : Int32) = 0 by decide)]
    · unfold Ln; rw [if_pos c0]
    · rw [c1]; rfl
  · by_cases q2 : jb i = 4 ∨ jb i = 6 ∨ jb i = 7
    · have h := m_un f i (if sX8_of f i 4 = 1 then 1 else 0) 1 0 (if jb i = 4 then 1 else 0) (if jb i = 6 then 1 else 0)
      rw [mu_idle jb f i q2]
      rw [hx, hx] at h
      have c0 : hot (jb i) = 0 := by rcases q2 with q | q | q <;> rw [q] <;> decide
      have c1 : cold (jb i) = 0 := by rcases q2 with q | q | q <;> rw [q] <;> decide
      refine ⟨h.1, h.2.1, rmi_of h ?_ ?_ ?_ ?_⟩
      · unfold Tn; rw [if_pos c0, if_pos c1]
      · unfold Fn; rw [if_pos c0, if_pos c1]
      · unfold Ln; rw [if_pos c0]
      · rw [if_pos c1]
    · by_cases q3 : jb i = 0
      · have h := m_hot f i (if sX8_of f i 4 = 1 then 1 else 0) (sX8_of (F1H f i (if sX8_of f i 4 = 1 then 1 else 0)) i 6) (f (16 + 8 * i + 6)) 0 (if jb i = 4 then 1 else 0) (if jb i = 6 then 1 else 0) (by unfold F1H sX8_lay sX8_of; rw [pk_un (by omega)])
        rw [mh_0 jb f i q3]
        rw [hx] at h
        have c0 : ¬ hot (jb i) = 0 := by rw [q3]; decide
        have c1 : cold (jb i) = 0 := by rw [q3]; decide
        refine ⟨h.1, h.2.1, rmi_of h ?_ ?_ ?_ ?_⟩
        · unfold Tn; rw [if_neg c0]
        · unfold Fn; rw [if_neg c0]
        · unfold Ln; rw [if_neg c0, if_pos q3]
        · rw [if_pos c1]
      · have q4 : jb i = 2 ∨ jb i = 5 := by
          rcases hp with h | h | h | h | h | h | h | h
          · exact absurd h q3
          · exact absurd (Or.inl h) q1
          · exact Or.inl h
          · exact absurd (Or.inr h) q1
          · exact absurd (Or.inl h) q2
          · exact Or.inr h
          · exact absurd (Or.inr (Or.inl h)) q2
          · exact absurd (Or.inr (Or.inr h)) q2
        have h := m_hot f i (if sX8_of f i 4 = 1 then 1 else 0) (F1H f i (if sX8_of f i 4 = 1 then 1 else 0) 15) (f 15) 1 (if jb i = 4 then 1 else 0) (if jb i = 6 then 1 else 0) (by unfold F1H sX8_lay; rw [pk_un (by omega)])
        rw [mh_b jb f i q4]
        rw [hx] at h
        have c0 : ¬ hot (jb i) = 0 := by rcases q4 with q | q <;> rw [q] <;> decide
        have c1 : cold (jb i) = 0 := by rcases q4 with q | q <;> rw [q] <;> decide
        refine ⟨h.1, h.2.1, rmi_of h ?_ ?_ ?_ ?_⟩
        · unfold Tn; rw [if_neg c0]
        · unfold Fn; rw [if_neg c0]
        · unfold Ln; rw [if_neg c0, if_neg q3]
        · rw [if_pos c1]
theorem RMI.cg {f f' M M' : Nat → Int32} {x : Int32} {i : Nat} (h : RMI f M x i) (hf : ∀ w, w < 8 → f' (16 + 8 * i + w) = f (16 + 8 * i + w)) (h15 : f' 15 = f 15) (hM : ∀ w, w < 8 → M' (16 + 8 * i + w) = M (16 + 8 * i + w)) : RMI f' M' x i := by
  have a0 : f' (16 + 8 * i) = f (16 + 8 * i) := hf 0 (by decide)
  have b0 : M' (16 + 8 * i) = M (16 + 8 * i) := hM 0 (by decide)
  unfold RMI Tn Fn Ln at h ⊢
  rw [a0, b0, hf 1 (by decide), hf 2 (by decide), hf 3 (by decide), hf 4 (by decide), hf 5 (by decide), hf 6 (by decide), hf 7 (by decide), hM 1 (by decide), hM 2 (by decide), hM 3 (by decide), hM 4 (by decide), hM 5 (by decide), hM 6 (by decide), hM 7 (by decide), h15]
  exact h
section P71
variable {f : Nat → Int32} {B m : Nat}
theorem mo_res {q jb f0 jz F : Nat → Int32} {zm : (Nat → Int32) × (Nat → Int32)} (hm : m ≤ 6) (hz : zm.2 = jz) (hc : ∀ j, j < m → cod7 (jz j)) (ho : ∀ j, j < m → zb (F (16 + 8 * j + 4))) : ∀ (d i : Nat) (f1 : Nat → Int32), i + d = m → (∀ x, x < 6 → f1 x = F x) → (∀ x, 10 ≤ x → x < 16 → f1 x = F x) → (∀ x, 16 + 8 * i ≤ x → f1 x = F x) → (∀ j, j < i → RMI F f1 (jz j) j) →
    (∀ x, x < 6 → (lp_X8_minuteOn_15 q jb f0 m zm F d i f1).2.2 x = F x) ∧ (∀ x, 10 ≤ x → x < 16 → (lp_X8_minuteOn_15 q jb f0 m zm F d i f1).2.2 x = F x) ∧ (∀ x, 16 + 8 * m ≤ x → (lp_X8_minuteOn_15 q jb f0 m zm F d i f1).2.2 x = F x) ∧ ∀ j, j < m → RMI F (lp_X8_minuteOn_15 q jb f0 m zm F d i f1).2.2 (jz j) j
  | 0, i, f1, hd, h1, h2, h3, h4 => by
    have : i = m := by omega
    subst this
    exact ⟨h1, h2, h3, h4⟩
  | d + 1, i, f1, hd, h1, h2, h3, h4 => by
    have eM : lp_X8_minuteOn_15 q jb f0 m zm F (d + 1) i f1 = lp_X8_minuteOn_15 q jb f0 m zm F d (i + 1) (sX8_roomOn jz f1 i) := by
      rw [← hz]; rfl
    rw [eM]
    have hi : i < m := by omega
    obtain ⟨r1, r2, r3⟩ := room_res (f := f1) (hc i hi) (by rw [h3 _ (by omega)]; exact ho i hi)
    refine mo_res hm hz hc ho d (i + 1) _ (by omega) (fun x hx => (r1 x hx).trans (h1 x hx)) (fun x hx hx2 => (r2 x hx (Or.inl (by omega))).trans (h2 x hx hx2)) (fun x hx => (r2 x (by omega) (Or.inr (by omega))).trans (h3 x (by omega))) (fun j hj => ?_)
    by_cases hji : j = i
    · subst hji
      exact r3.cg (fun w hw => (h3 _ (by omega)).symm) (h2 15 (by decide) (by decide)).symm (fun _ _ => rfl)
    · exact (h4 j (by omega)).cg (fun _ _ => rfl) rfl (fun w hw => r2 _ (by omega) (by omega))
/-- what a minute does -/
def MN (f : Nat → Int32) (m : Nat) (q jb : Nat → Int32) : Nat → Int32 := (sX8_minuteOn q jb f m).2.2
theorem meas_out (f : Nat → Int32) (k : Int32) : (∀ x, 10 ≤ x → sX8_measure f k x = f x) ∧ sX8_measure f k 0 = f 0 := by
  refine ⟨fun x hx => ?_, me_0 f k⟩
  simp only [sX8_measure, sX8_measure_j87, sX8_measure_j65, sX8_measure_j20]
  by_cases h : sX8_minutesLeft f = 1
  · rw [if_pos h, if_neg (show ¬ (1 : Int32) = 0 by decide)]
    simp (disch := omega) only [pk_un]
  · rw [if_neg h, if_pos rfl]
    simp (disch := omega) only [pk_un]
theorem minute_res (hB : B ≤ 100000) (ok : OKs B m f) (q jb : Nat → Int32) : (sX8_minuteOn q jb f m).2.2 0 = f 0 ∧ (∀ x, 10 ≤ x → x < 16 → (sX8_minuteOn q jb f m).2.2 x = f x) ∧ (∀ x, 16 + 8 * m ≤ x → (sX8_minuteOn q jb f m).2.2 x = f x) ∧ ∀ j, j < m → RMI f (sX8_minuteOn q jb f m).2.2 ((sX8_find q jb f m).2 j) j := by
  have hm := ok.1
  obtain ⟨p1, -⟩ := plan_all hB ok q jb
  have hc : ∀ j, j < m → cod7 ((sX8_find q jb f m).2 j) := fun j hj => by
    rcases p1 j hj with ⟨z, z2⟩ | ⟨-, z, -⟩ | ⟨-, z, -⟩ | ⟨-, z, -⟩
    · rw [z]; rcases mst_c f j with y | y | y | y
      · rw [y]; exact Or.inl rfl
      · rw [y]; exact Or.inr (Or.inl rfl)
      · rw [y]; exact Or.inr (Or.inr (Or.inl rfl))
      · exact absurd y z2
    · rcases z with z | z <;> rw [z] <;> simp [cod7]
    · rcases z with z | z <;> rw [z] <;> simp [cod7]
    · rw [z]; simp [cod7]
  obtain ⟨e1, e2⟩ := meas_out f ((sX8_find q jb f m).1 10)
  have eM : sX8_minuteOn q jb f m = lp_X8_minuteOn_15 q jb f m (sX8_find q jb f m) (sX8_measure f ((sX8_find q jb f m).1 10)) m 0 (sX8_measure f ((sX8_find q jb f m).1 10)) := rfl
  rw [eM]
  obtain ⟨a1, a2, a3, a4⟩ := mo_res (q := q) (jb := jb) (f0 := f) (jz := (sX8_find q jb f m).2) (F := sX8_measure f ((sX8_find q jb f m).1 10)) (zm := sX8_find q jb f m) hm rfl hc (fun j hj => by rw [e1 _ (by omega)]; exact (ok.2.2.2.2.2.2.2.2.2.2 j (by omega)).2.2.1) m 0 (sX8_measure f ((sX8_find q jb f m).1 10)) (Nat.zero_add _) (fun _ _ => rfl) (fun _ _ _ => rfl) (fun _ _ => rfl) (fun j h => absurd h (Nat.not_lt_zero j))
  refine ⟨(a1 0 (by decide)).trans e2, fun x hx hx2 => (a2 x hx hx2).trans (e1 x hx), fun x hx => (a3 x hx).trans (e1 x (by omega)), fun j hj => (a4 j hj).cg (fun w hw => (e1 _ (by omega)).symm) (e1 15 (by decide)).symm (fun _ _ => rfl)⟩
/-- what holds of a room besides -/
def OKX (m : Nat) (f : Nat → Int32) : Prop := ∀ i, i < m → (-300 ≤ (f (16 + 8 * i + 1)).toInt ∧ (f (16 + 8 * i + 1)).toInt < (f (16 + 8 * i + 2)).toInt) ∧ 0 ≤ (f (16 + 8 * i + 6)).toInt ∧ (f (16 + 8 * i + 6)).toInt ≤ 30
theorem mst_left {f : Nat → Int32} {i : Nat} (h : mst f i = 0) : 0 < (f (16 + 8 * i + 6)).toInt := by
  have e0 : (0 : Int32).toInt = 0 := rfl
  unfold mst sX8_of at h
  by_cases c : f (16 + 8 * i + 6) ≤ 0
  · rw [if_pos c, if_pos rfl] at h
    split at h
    · split at h <;> exact absurd h (by decide)
    · exact absurd h (by decide)
  · rw [le_i, e0] at c; omega
theorem okx_minute (hB : B ≤ 100000) (ok : OKs B m f) (okx : OKX m f) (q jb : Nat → Int32) : OKX m (sX8_minuteOn q jb f m).2.2 := by
  have hm := ok.1
  obtain ⟨-, -, -, h4⟩ := minute_res hB ok q jb
  obtain ⟨p1, -⟩ := plan_all hB ok q jb
  obtain ⟨k1, k2⟩ := ok.2.2.2.2.2.2.2.1
  intro i hi
  obtain ⟨-, m1, m2, -, -, -, m6, -⟩ := h4 i hi
  obtain ⟨o1, o2, o3⟩ := okx i hi
  rw [m1, m2, m6]
  refine ⟨o1, ?_⟩
  have e0 : (0 : Int32).toInt = 0 := rfl
  have e1 : (1 : Int32).toInt = 1 := rfl
  unfold Ln
  split
  · exact ⟨o2, o3⟩
  · split
    · rw [e0]; omega
    · split
      · rename_i hx
        have hl : 0 < (f (16 + 8 * i + 6)).toInt := by
          rcases p1 i hi with ⟨z, -⟩ | ⟨-, z, -⟩ | ⟨-, z, -⟩ | ⟨-, z, -⟩
          · exact mst_left (z.symm.trans hx)
          · rcases z with z | z <;> rw [z] at hx <;> exact absurd hx (by decide)
          · rcases z with z | z <;> rw [z] at hx <;> exact absurd hx (by decide)
          · rw [z] at hx; exact absurd hx (by decide)
        rw [is_ (by omega) (by omega), e1]; omega
      · rw [is_ (by omega) (by omega), e1]; omega
theorem okx_mit {B : Nat} : ∀ (d : Nat) (q jb f : Nat → Int32), B + d ≤ 100001 → (∃ g u rv, SM f g u rv) → OKs B m f → OKX m f → OKX m (mit m d (q, jb, f)).2.2 := by
  intro d
  induction d generalizing B with
  | zero => intro q jb f _ _ _ h; exact h
  | succ d ih =>
    intro q jb f hB ⟨g, u, rv, sr⟩ ok okx
    obtain ⟨i1, i2, -⟩ := minute_eq (by omega) sr ok q jb
    have e : mit m (d + 1) (q, jb, f) = mit m d ((sX8_minuteOn q jb f m).1, (sX8_minuteOn q jb f m).2.1, (sX8_minuteOn q jb f m).2.2) := rfl
    rw [e]
    exact ih (B := B + 1) _ _ _ (by omega) ⟨_, _, _, i1⟩ i2 (okx_minute (by omega) ok okx q jb)
end P71
