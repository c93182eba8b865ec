/-! PURE: the two slots -/
def SLO (B : Nat) (s : Nat → Int32) (g u : Nat → Int32) (rv : Nat → Nat → Int32) (k : Int32) (kp : Nat → Int32) (o : Nat) : Prop :=
  s 1 = k ∧ zb k ∧ N0 rv ∧ (∀ i, i < 6 → zb (rv i 5)) ∧ (k = 1 → ∃ m, SM (fun x => kp (o + x)) g u rv ∧ OKs B m (fun x => kp (o + x)))
theorem SLO.mono {B B' : Nat} {s g u : Nat → Int32} {rv : Nat → Nat → Int32} {k : Int32} {kp : Nat → Int32} {o : Nat} (h : B ≤ B') (S : SLO B s g u rv k kp o) : SLO B' s g u rv k kp o := by
  obtain ⟨a1, a2, a3, a4, a5⟩ := S
  refine ⟨a1, a2, a3, a4, fun hk => ?_⟩
  obtain ⟨m, h1, h2⟩ := a5 hk
  exact ⟨m, h1, h2.mono h⟩
section P14
variable {f g u : Nat → Int32} {rv : Nat → Nat → Int32} {B m cc : Nat} {mq : Nat → Int32} {r : Nat → Nat} {mg mu : Nat → Nat → Int32} {mr : Nat → Nat → Nat → Int32} {q tx ft dy kp ik jb s0 s1 g6 u6 g7 u7 : Nat → Int32} {rv6 rv7 : Nat → Nat → Int32}
theorem in01 {x : Int32} (h : ¬ sX8_in x.toInt64 0 1 = 0) : x = 0 ∨ x = 1 := by
  have hb : 0 ≤ x.toInt ∧ x.toInt ≤ 1 := lv_at0 (fun z => h ((in32 (a := 0) (b := 1) rfl rfl).mpr z))
  have hw : x.toInt = 0 ∨ x.toInt = 1 := by omega
  rcases hw with h | h
  · exact Or.inl (lit (c := 0) rfl h)
  · exact Or.inr (lit (c := 1) rfl h)
theorem in01n {x : Int32} (h : sX8_in x.toInt64 0 1 = 0) : ¬ x = 0 ∧ ¬ x = 1 := by
  have hb := (in32 (a := 0) (b := 1) rfl rfl).mp h
  refine ⟨fun z => hb ?_, fun z => hb ?_⟩ <;> subst z
  · exact ⟨by decide, by decide⟩
  · exact ⟨by decide, by decide⟩
theorem slo_keep (n0 : N0 rv6) (sr : SM f g u rv) (ok : OKs B m f) (o : Nat) : SLO B (upd s0 1 1) (sX5_copyFrom g6 u6 rv6 g u rv).1 (sX5_copyFrom g6 u6 rv6 g u rv).2.1 (sX5_copyFrom g6 u6 rv6 g u rv).2.2 1 (sX8_copyState 0 o f kp) o := by
  have e : ∀ x, x < 64 → (fun x => sX8_copyState 0 o f kp (o + x)) x = f x := fun x hx => by
    show sX8_copyState 0 o f kp (o + x) = f x
    rw [cp_in hx, Nat.zero_add]
  exact ⟨pk_us, Or.inr rfl, fun i hi => cf_0 n0 hi, sm_zb (cf_sm sr n0) ok, fun _ => ⟨m, SM.cg e (cf_sm sr n0), OKs.cg e ok⟩⟩
theorem slo_out {s : Nat → Int32} {k : Int32} {o p : Nat} (h : p + 64 ≤ o ∨ o + 64 ≤ p) (S : SLO B s g u rv k kp o) : SLO B s g u rv k (sX8_copyState 0 p f kp) o := by
  have e : ∀ x, x < 64 → (fun x => sX8_copyState 0 p f kp (o + x)) x = (fun x => kp (o + x)) x := fun x hx => cp_out (by omega)
  obtain ⟨a1, a2, a3, a4, a5⟩ := S
  refine ⟨a1, a2, a3, a4, fun hk => ?_⟩
  obtain ⟨m', h1, h2⟩ := a5 hk
  exact ⟨m', SM.cg e h1, OKs.cg e h2⟩
theorem op_save (S0 : SLO B s0 g6 u6 rv6 (ik 0) kp 0) (S1 : SLO B s1 g7 u7 rv7 (ik 1) kp 64) (sr : SM f g u rv) (ok : OKs B m f) (x : Int32) :
    EQOP 3 (sX7_save s0 g6 u6 rv6 s1 g7 u7 rv7 g u rv x).1 (sX7_save s0 g6 u6 rv6 s1 g7 u7 rv7 g u rv x).2.1 ((sX8_save q tx f ft dy kp ik jb x).2.1 0) (sX8_save q tx f ft dy kp ik jb x).1 ∧
    SLO B (sX7_save s0 g6 u6 rv6 s1 g7 u7 rv7 g u rv x).2.2.1 (sX7_save s0 g6 u6 rv6 s1 g7 u7 rv7 g u rv x).2.2.2.2.1 (sX7_save s0 g6 u6 rv6 s1 g7 u7 rv7 g u rv x).2.2.2.2.2.1 (sX7_save s0 g6 u6 rv6 s1 g7 u7 rv7 g u rv x).2.2.2.2.2.2.1 ((sX8_save q tx f ft dy kp ik jb x).2.2.2 0) (sX8_save q tx f ft dy kp ik jb x).2.2.1 0 ∧
    SLO B (sX7_save s0 g6 u6 rv6 s1 g7 u7 rv7 g u rv x).2.2.2.1 (sX7_save s0 g6 u6 rv6 s1 g7 u7 rv7 g u rv x).2.2.2.2.2.2.2.1 (sX7_save s0 g6 u6 rv6 s1 g7 u7 rv7 g u rv x).2.2.2.2.2.2.2.2.1 (sX7_save s0 g6 u6 rv6 s1 g7 u7 rv7 g u rv x).2.2.2.2.2.2.2.2.2 ((sX8_save q tx f ft dy kp ik jb x).2.2.2 1) (sX8_save q tx f ft dy kp ik jb x).2.2.1 64 ∧
    KR q (sX8_save q tx f ft dy kp ik jb x).2.1 := by
  by_cases hA : sX8_in x.toInt64 0 1 = 0
  · obtain ⟨n0, n1⟩ := in01n hA
    have eC : sX7_save s0 g6 u6 rv6 s1 g7 u7 rv7 g u rv x = (3, 0, s0, s1, g6, u6, rv6, g7, u7, rv7) := by
      unfold sX7_save
      rw [if_neg n0, if_neg n1]
    have eR : sX8_save q tx f ft dy kp ik jb x = (0, upd q 0 1, kp, ik) := if_pos hA
    rw [eC, eR]
    dsimp only
    exact ⟨⟨pk_us, fun h => absurd h (by decide)⟩, S0, S1, KR.one q 1⟩
  · have eR : sX8_save q tx f ft dy kp ik jb x = (f 1, upd q 0 0, sX8_copyState 0 (64 * x.toNatClampNeg) f kp, upd ik x.toNatClampNeg 1) := if_neg hA
    have hg := sr.1 1 (by decide) (by decide)
    rcases in01 hA with h | h
    · subst h
      have eC : sX7_save s0 g6 u6 rv6 s1 g7 u7 rv7 g u rv 0 = (0, g 1, upd s0 1 1, s1, (sX5_copyFrom g6 u6 rv6 g u rv).1, (sX5_copyFrom g6 u6 rv6 g u rv).2.1, (sX5_copyFrom g6 u6 rv6 g u rv).2.2, g7, u7, rv7) := rfl
      rw [eC, eR]
      have ez : (0 : Int32).toNatClampNeg = 0 := rfl
      rw [ez]
      dsimp only
      rw [pk_us, pk_us, pk_un (show (1 : Nat) ≠ 0 by decide)]
      exact ⟨⟨rfl, fun _ => hg⟩, slo_keep S0.2.2.1 sr ok 0, slo_out (p := 64 * 0) (Or.inl (by omega)) S1, KR.one q 0⟩
    · subst h
      have eC : sX7_save s0 g6 u6 rv6 s1 g7 u7 rv7 g u rv 1 = (0, g 1, s0, upd s1 1 1, g6, u6, rv6, (sX5_copyFrom g7 u7 rv7 g u rv).1, (sX5_copyFrom g7 u7 rv7 g u rv).2.1, (sX5_copyFrom g7 u7 rv7 g u rv).2.2) := rfl
      rw [eC, eR]
      have ez : (1 : Int32).toNatClampNeg = 1 := rfl
      rw [ez]
      dsimp only
      rw [pk_us, pk_us, pk_un (show (0 : Nat) ≠ 1 by decide)]
      exact ⟨⟨rfl, fun _ => hg⟩, slo_out (p := 64 * 1) (Or.inr (by omega)) S0, slo_keep S1.2.2.1 sr ok 64, KR.one q 0⟩
theorem slo_back {s : Nat → Int32} {o : Nat} {k : Int32} (hk : k = 1) (n0 : N0 rv) (S : SLO B s g6 u6 rv6 k kp o) : ST B (sX8_copyState o 0 kp f) (sX5_copyFrom g u rv g6 u6 rv6).1 (sX5_copyFrom g u rv g6 u6 rv6).2.1 (sX5_copyFrom g u rv g6 u6 rv6).2.2 := by
  obtain ⟨m', h1, h2⟩ := S.2.2.2.2 hk
  have e : ∀ x, x < 64 → sX8_copyState o 0 kp f x = (fun x => kp (o + x)) x := fun x hx => by
    have := cp_in (p0 := o) (q0 := 0) (f := kp) (f2 := f) hx
    rw [Nat.zero_add] at this
    exact this
  exact ⟨m', SM.cg e (cf_sm h1 n0), OKs.cg e h2⟩
theorem op_restore (M : MEM B cc mq r mg mu mr (q 6) dy) (S0 : SLO B s0 g6 u6 rv6 (ik 0) kp 0) (S1 : SLO B s1 g7 u7 rv7 (ik 1) kp 64) (sr : SM f g u rv) (ok : OKs B m f) (x : Int32) :
    EQOP 3 (sX7_restore mq s0 g6 u6 rv6 s1 g7 u7 rv7 g u rv x).1 (sX7_restore mq s0 g6 u6 rv6 s1 g7 u7 rv7 g u rv x).2.1 ((sX8_restore q tx f ft dy kp ik jb x).2.1 0) (sX8_restore q tx f ft dy kp ik jb x).1 ∧
    (∃ cc', MEM B cc' (sX7_restore mq s0 g6 u6 rv6 s1 g7 u7 rv7 g u rv x).2.2.1 r mg mu mr ((sX8_restore q tx f ft dy kp ik jb x).2.1 6) dy) ∧
    ST B (sX8_restore q tx f ft dy kp ik jb x).2.2 (sX7_restore mq s0 g6 u6 rv6 s1 g7 u7 rv7 g u rv x).2.2.2.1 (sX7_restore mq s0 g6 u6 rv6 s1 g7 u7 rv7 g u rv x).2.2.2.2.1 (sX7_restore mq s0 g6 u6 rv6 s1 g7 u7 rv7 g u rv x).2.2.2.2.2 ∧ KQ q (sX8_restore q tx f ft dy kp ik jb x).2.1 := by
  have M0 : ∀ q' : Nat → Int32, q' 6 = 0 → MEM B 0 (upd mq 1 0) r mg mu mr (q' 6) dy := fun q' h => ⟨pk_us, h, by omega, M.2.2.2.1, M.2.2.2.2.1, M.2.2.2.2.2.1, fun p hp => absurd hp (Nat.not_lt_zero _)⟩
  have q06 : upd (upd q 0 0) 6 0 6 = 0 := pk_us
  have q00 : upd (upd q 0 0) 6 0 0 = 0 := by
    rw [pk_un (by decide), pk_us]
  have qK : KQ q (upd (upd q 0 0) 6 0) := fun k h0 h6 _ => by rw [pk_un h6, pk_un h0]
  by_cases hA : sX8_in x.toInt64 0 1 = 0
  · obtain ⟨n0, n1⟩ := in01n hA
    have eC : sX7_restore mq s0 g6 u6 rv6 s1 g7 u7 rv7 g u rv x = (3, 0, mq, g, u, rv) := by
      unfold sX7_restore
      rw [if_neg n0, if_neg n1]
    have eR : sX8_restore q tx f ft dy kp ik jb x = (0, upd q 0 1, f) := if_pos hA
    rw [eC, eR]
    dsimp only
    exact ⟨⟨pk_us, fun h => absurd h (by decide)⟩, ⟨cc, M⟩, ⟨m, sr, ok⟩, KQ.one q 1⟩
  · have eR : sX8_restore q tx f ft dy kp ik jb x = (if (ik x.toNatClampNeg) = 0 then (0, (upd q 0 2), f) else (sX8_restore_z_1 q tx f ft dy kp ik jb x (sX8_copyState (64 * x.toNatClampNeg) 0 kp f))) := if_neg hA
    rcases in01 hA with h | h
    · subst h
      have ez : (0 : Int32).toNatClampNeg = 0 := rfl
      have eC : sX7_restore mq s0 g6 u6 rv6 s1 g7 u7 rv7 g u rv 0 = (if (s0 1) = 0 then (2, 0, mq, g, u, rv) else (sX7_restore_z_3 mq s0 g6 u6 rv6 s1 g7 u7 rv7 g u rv 0 (sX5_copyFrom g u rv g6 u6 rv6))) := rfl
      rw [ez, show 64 * 0 = 0 from rfl] at eR
      rw [eC, eR, S0.1]
      by_cases hz : ik 0 = 0
      · rw [if_pos hz, if_pos hz]
        dsimp only
        exact ⟨⟨pk_us, fun h => absurd h (by decide)⟩, ⟨cc, M⟩, ⟨m, sr, ok⟩, KQ.one q 2⟩
      · have hk : ik 0 = 1 := by
          rcases S0.2.1 with h | h
          · exact absurd h hz
          · exact h
        have hS := slo_back (f := f) (g := g) (u := u) hk sr.2.2.1 S0
        obtain ⟨m', t1, t2⟩ := hS
        rw [if_neg hz, if_neg hz]
        generalize sX8_copyState 0 0 kp f = F at t1 t2 ⊢
        generalize sX5_copyFrom g u rv g6 u6 rv6 = Y at t1 ⊢
        exact ⟨⟨q00, fun _ => t1.1 1 (by decide) (by decide)⟩, ⟨0, M0 _ q06⟩, ⟨m', t1, t2⟩, qK⟩
    · subst h
      have ez : (1 : Int32).toNatClampNeg = 1 := rfl
      have eC : sX7_restore mq s0 g6 u6 rv6 s1 g7 u7 rv7 g u rv 1 = (if (s1 1) = 0 then (2, 0, mq, g, u, rv) else (sX7_restore_z_5 mq s0 g6 u6 rv6 s1 g7 u7 rv7 g u rv 1 (sX5_copyFrom g u rv g7 u7 rv7))) := rfl
      rw [ez, show 64 * 1 = 64 from rfl] at eR
      rw [eC, eR, S1.1]
      by_cases hz : ik 1 = 0
      · rw [if_pos hz, if_pos hz]
        dsimp only
        exact ⟨⟨pk_us, fun h => absurd h (by decide)⟩, ⟨cc, M⟩, ⟨m, sr, ok⟩, KQ.one q 2⟩
      · have hk : ik 1 = 1 := by
          rcases S1.2.1 with h | h
          · exact absurd h hz
          · exact h
        have hS := slo_back (f := f) (g := g) (u := u) hk sr.2.2.1 S1
        obtain ⟨m', t1, t2⟩ := hS
        rw [if_neg hz, if_neg hz]
        generalize sX8_copyState 64 0 kp f = F at t1 t2 ⊢
        generalize sX5_copyFrom g u rv g7 u7 rv7 = Y at t1 ⊢
        exact ⟨⟨q00, fun _ => t1.1 1 (by decide) (by decide)⟩, ⟨0, M0 _ q06⟩, ⟨m', t1, t2⟩, qK⟩
end P14
