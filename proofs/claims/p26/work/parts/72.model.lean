/-! PURE: a store as a value: its row, the remembered rows, the slots -/
def zz : Nat → Int32 := fun _ => 0
def mF (f : Nat → Int32) : Nat := (f 0).toNatClampNeg
def RUNF (f : Nat → Int32) (n : Nat) : Nat → Int32 := (mit (mF f) n (zz, zz, f)).2.2
def JB (f : Nat → Int32) : Nat → Int32 := (sX8_find zz zz f (mF f)).2
def xr (cd r : Int32) : Int32 := if cd = 0 then r else if cd = 1 then (-9999002) else if cd = 2 then (-9999003) else (-9999001)
theorem xr_0 (r : Int32) : xr 0 r = r := rfl
theorem xr_1 (r : Int32) : xr 1 r = (-9999002) := rfl
theorem xr_2 (r : Int32) : xr 2 r = (-9999003) := rfl
theorem xr_3 (r : Int32) : xr 3 r = (-9999001) := rfl
def OKP (B m : Nat) (f : Nat → Int32) : Prop := OKs B m f ∧ OKX m f
def STf (B : Nat) (f g u : Nat → Int32) (rv : Nat → Nat → Int32) : Prop := ∃ m, SM f g u rv ∧ OKP B m f
theorem nI_cl {m : Nat} (h : m < 2 ^ 31) : (nI m).toNatClampNeg = m := by
  rw [tc_n, nI_toInt h]; omega
theorem mF_of {B m : Nat} {f : Nat → Int32} (ok : OKs B m f) : mF f = m := by
  unfold mF
  rw [ok.2.1]
  exact nI_cl (by have := ok.1; omega)
theorem OKP.mono {B B' m : Nat} {f : Nat → Int32} (h : B ≤ B') (o : OKP B m f) : OKP B' m f := ⟨o.1.mono h, o.2⟩
theorem STf.mono {B B' : Nat} {f g u : Nat → Int32} {rv : Nat → Nat → Int32} (h : B ≤ B') (q : STf B f g u rv) : STf B' f g u rv := by
  obtain ⟨m, h1, h2⟩ := q
  exact ⟨m, h1, h2.mono h⟩
theorem OKX.cg {m : Nat} {f f' : Nat → Int32} (h : ∀ x, x < 64 → f' x = f x) (hm : m ≤ 6) (o : OKX m f) : OKX m f' := fun i hi => by
  rw [h _ (by omega), h _ (by omega), h _ (by omega)]; exact o i hi
/-- the remembered states: cc of them, rw p the p-th, the oldest first -/
def pushC (cc : Nat) : Nat := if cc < 14 then cc + 1 else 14
def pushR (cc : Nat) (rw_ : Nat → Nat → Int32) (f : Nat → Int32) : Nat → Nat → Int32 := fun p => if cc < 14 then (if p = cc then f else rw_ p) else (if p = 13 then f else rw_ (p + 1))
def MEMf (B cc : Nat) (rw_ : Nat → Nat → Int32) (mq : Nat → Int32) (r : Nat → Nat) (mg mu : Nat → Nat → Int32) (mr : Nat → Nat → Nat → Int32) : Prop :=
  mq 1 = nI cc ∧ cc ≤ 14 ∧ (∀ j, j < 14 → r j < 14) ∧ (∀ i j, i < 14 → j < 14 → r i = r j → i = j) ∧ (∀ p, p < 14 → ∀ i, i < 6 → mr p i 0 = nI i ∧ zb (mr p i 5)) ∧ ∀ p, p < cc → STf B (rw_ p) (mg (r p)) (mu (r p)) (mr (r p))
theorem MEMf.mono {B B' cc : Nat} {rw_ : Nat → Nat → Int32} {mq : Nat → Int32} {r : Nat → Nat} {mg mu : Nat → Nat → Int32} {mr : Nat → Nat → Nat → Int32} (h : B ≤ B') (M : MEMf B cc rw_ mq r mg mu mr) : MEMf B' cc rw_ mq r mg mu mr :=
  ⟨M.1, M.2.1, M.2.2.1, M.2.2.2.1, M.2.2.2.2.1, fun p hp => (M.2.2.2.2.2 p hp).mono h⟩
section P72
variable {f g u : Nat → Int32} {rv : Nat → Nat → Int32} {B m cc : Nat} {rw_ : Nat → Nat → Int32} {mq : Nat → Int32} {r : Nat → Nat} {mg mu : Nat → Nat → Int32} {mr : Nat → Nat → Nat → Int32} {g4 u4 : Nat → Int32} {rv4 : Nat → Nat → Int32}
theorem rem_f (M : MEMf B cc rw_ mq r mg mu mr) (sr : SM f g u rv) (ok : OKP B m f) : MEMf B (pushC cc) (pushR cc rw_ f) (sX0_remember mq r mg mu mr g u rv cc).1 (sX0_remember mq r mg mu mr g u rv cc).2.1 (sX0_remember mq r mg mu mr g u rv cc).2.2.1 (sX0_remember mq r mg mu mr g u rv cc).2.2.2.1 (sX0_remember mq r mg mu mr g u rv cc).2.2.2.2 := by
  obtain ⟨a1, a3, a4, a5, a6, a7⟩ := M
  by_cases hcc : cc < 14
  · have eC : sX0_remember mq r mg mu mr g u rv cc = (upd mq 1 (nI (cc + 1)), r, updR mg (r cc) (sX5_copyFrom (mg (r cc)) (mu (r cc)) (mr (r cc)) g u rv).1, updR mu (r cc) (sX5_copyFrom (mg (r cc)) (mu (r cc)) (mr (r cc)) g u rv).2.1, updS mr (r cc) (sX5_copyFrom (mg (r cc)) (mu (r cc)) (mr (r cc)) g u rv).2.2) := by
      have c1 : nI cc < nI 14 := (nI_ltI (by omega) (by decide)).mpr hcc
      have c2 : ¬ nI cc < 0 := nI_lt_f (b := 0) (Nat.zero_le _) (by omega)
      have c3 : ¬ nI 14 ≤ nI cc := Int32.not_le.mpr c1
      unfold sX0_remember
      rw [if_pos c1, if_neg c2, if_neg c3]
      rfl
    have eP : pushC cc = cc + 1 := if_pos hcc
    rw [eC, eP]
    dsimp only
    have hr := a4 cc hcc
    have n0 : N0 (mr (r cc)) := fun i hi => (a6 (r cc) hr i hi).1
    refine ⟨pk_us, by omega, a4, a5, fun p hp i hi => ?_, fun p hp => ?_⟩
    · show updS mr (r cc) _ p i 0 = _ ∧ zb (updS mr (r cc) _ p i 5)
      by_cases hpr : p = r cc
      · subst hpr
        rw [updS_s]
        exact ⟨cf_0 n0 hi, sm_zb (cf_sm sr n0) ok.1 i hi⟩
      · rw [updS_n hpr]; exact a6 p hp i hi
    · show STf B (pushR cc rw_ f p) (updR mg (r cc) _ (r p)) (updR mu (r cc) _ (r p)) (updS mr (r cc) _ (r p))
      unfold pushR
      rw [if_pos hcc]
      by_cases hpc : p = cc
      · subst hpc
        rw [updR_s, updR_s, updS_s, if_pos rfl]
        exact ⟨m, cf_sm sr n0, ok⟩
      · have hne : r p ≠ r cc := fun z => hpc (a5 p cc (by omega) hcc z)
        rw [updR_n hne, updR_n hne, updS_n hne, if_neg hpc]
        exact a7 p (by omega)
  · have h14 : cc = 14 := by omega
    subst h14
    obtain ⟨o1, o2, o3⟩ := fo_eq2 mq r
    have eC : sX0_remember mq r mg mu mr g u rv 14 = (upd (sX0_forgetOldest mq r).1 1 14, (sX0_forgetOldest mq r).2, updR mg ((sX0_forgetOldest mq r).2 13) (sX5_copyFrom (mg ((sX0_forgetOldest mq r).2 13)) (mu ((sX0_forgetOldest mq r).2 13)) (mr ((sX0_forgetOldest mq r).2 13)) g u rv).1, updR mu ((sX0_forgetOldest mq r).2 13) (sX5_copyFrom (mg ((sX0_forgetOldest mq r).2 13)) (mu ((sX0_forgetOldest mq r).2 13)) (mr ((sX0_forgetOldest mq r).2 13)) g u rv).2.1, updS mr ((sX0_forgetOldest mq r).2 13) (sX5_copyFrom (mg ((sX0_forgetOldest mq r).2 13)) (mu ((sX0_forgetOldest mq r).2 13)) (mr ((sX0_forgetOldest mq r).2 13)) g u rv).2.2) := by
      have c1 : ¬ nI 14 < nI 14 := nI_lt_f (Nat.le_refl _) (by decide)
      have c2 : ¬ nI 14 ≤ 13 := by decide
      unfold sX0_remember
      rw [if_neg c1]
      unfold sX0_remember_z_2
      rw [if_neg c2]
      rfl
    have eP : pushC 14 = 14 := rfl
    rw [eC, eP]
    dsimp only
    generalize (sX0_forgetOldest mq r).2 = r' at o2 o3 ⊢
    have hr' : ∀ j, j < 14 → r' j = if j < 13 then r (j + 1) else r 0 := fun j hj => by
      by_cases h : j < 13
      · rw [if_pos h, o2 j h]
      · rw [if_neg h, show j = 13 by omega, o3]
    have b4 : ∀ j, j < 14 → r' j < 14 := fun j hj => by
      rw [hr' j hj]
      by_cases h : j < 13
      · rw [if_pos h]; exact a4 _ (by omega)
      · rw [if_neg h]; exact a4 _ (by omega)
    have b5 : ∀ i j, i < 14 → j < 14 → r' i = r' j → i = j := fun i j hi hj h => by
      rw [hr' i hi, hr' j hj] at h
      by_cases h1 : i < 13
      · rw [if_pos h1] at h
        by_cases h2 : j < 13
        · rw [if_pos h2] at h
          have := a5 _ _ (by omega) (by omega) h
          omega
        · rw [if_neg h2] at h
          have := a5 _ _ (by omega) (by omega) h
          omega
      · rw [if_neg h1] at h
        by_cases h2 : j < 13
        · rw [if_pos h2] at h
          have := a5 _ _ (by omega) (by omega) h
          omega
        · omega
    have hr := b4 13 (by decide)
    have n0 : N0 (mr (r' 13)) := fun i hi => (a6 (r' 13) hr i hi).1
    refine ⟨pk_us, by omega, b4, b5, fun p hp i hi => ?_, fun p hp => ?_⟩
    · show updS mr (r' 13) _ p i 0 = _ ∧ zb (updS mr (r' 13) _ p i 5)
      by_cases hpr : p = r' 13
      · subst hpr
        rw [updS_s]
        exact ⟨cf_0 n0 hi, sm_zb (cf_sm sr n0) ok.1 i hi⟩
      · rw [updS_n hpr]; exact a6 p hp i hi
    · show STf B (pushR 14 rw_ f p) (updR mg (r' 13) _ (r' p)) (updR mu (r' 13) _ (r' p)) (updS mr (r' 13) _ (r' p))
      unfold pushR
      rw [if_neg (show ¬ 14 < 14 by decide)]
      by_cases hpc : p = 13
      · subst hpc
        rw [updR_s, updR_s, updS_s, if_pos rfl]
        exact ⟨m, cf_sm sr n0, ok⟩
      · have hne : r' p ≠ r' 13 := fun z => hpc (b5 p 13 (by omega) (by decide) z)
        rw [updR_n hne, updR_n hne, updS_n hne, if_neg hpc, o2 p (by omega)]
        exact a7 (p + 1) (by omega)
theorem h1_zero {a cd : Int32} (ha : h1 a cd = 0) : cd = 0 := by
  unfold h1 at ha
  by_cases h : cd = 0
  · exact h
  · rw [if_neg h] at ha
    by_cases h2 : cd = a
    · rw [if_pos h2] at ha; exact absurd ha (by decide)
    · rw [if_neg h2] at ha; exact absurd ha (by decide)
theorem h1_one {a cd : Int32} (ha : h1 a cd = 1) : cd = a := by
  unfold h1 at ha
  by_cases h : cd = 0
  · rw [if_pos h] at ha; exact absurd ha (by decide)
  · rw [if_neg h] at ha
    by_cases h2 : cd = a
    · exact h2
    · rw [if_neg h2] at ha; exact absurd ha (by decide)
/-- the answers that change nothing -/
def qAbout (f : Nat → Int32) (w : Int32) : Int32 := if sX8_in w.toInt64 0 10 = 0 then (-9999002) else (sX8_about zz zz f zz zz zz zz zz w).1
def qSet (f : Nat → Int32) (w : Int32) : Int32 := if sX8_in w.toInt64 0 5 = 0 then (-9999002) else f (10 + w.toNatClampNeg)
def qRoom (f : Nat → Int32) (x y : Int32) : Int32 := if sX8_isRoom f x = 0 then (-9999001) else if sX8_in y.toInt64 0 7 = 0 then (-9999002) else f (16 + 8 * x.toNatClampNeg + y.toNatClampNeg)
def qDoes (f : Nat → Int32) (x : Int32) : Int32 := if sX8_isRoom f x = 0 then (-9999001) else JB f x.toNatClampNeg
def qSpare (f : Nat → Int32) : Int32 := (sX8_spare zz zz f zz zz zz zz zz).1
def qBest (f : Nat → Int32) : Int32 := ob (sX8_bestShut zz zz f zz zz zz zz zz (mF f)).1
def qSim (f : Nat → Int32) (sd : Int64) (y : Int32) : Int32 := if sX8_in y.toInt64 1 60 = 0 then (-9999002) else (sX8_simulate zz zz f zz zz zz zz zz (mF f) sd y lcg hi31).1
theorem xr_eq {a cd r t b : Int32} (E : EQOP a cd r t b) (h : t = 0) : xr cd r = b := by
  have h0 := h1_zero (E.1.symm.trans h)
  rw [h0, xr_0]; exact E.2 h0
theorem xr_one {a cd r t b : Int32} (E : EQOP a cd r t b) (h : t = 1) : cd = a := by
  have h1 := E.1.symm.trans h
  exact h1_one h1
end P72
