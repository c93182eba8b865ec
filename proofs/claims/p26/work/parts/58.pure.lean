/-! PURE: the operations, first part -/
def EQOP (a cd r t b : Int32) : Prop := t = h1 a cd ∧ (cd = 0 → r = b)
def N0 (rv : Nat → Nat → Int32) : Prop := ∀ i, i < 6 → rv i 0 = nI i
def MEM (B cc : Nat) (mq : Nat → Int32) (r : Nat → Nat) (mg mu : Nat → Nat → Int32) (mr : Nat → Nat → Nat → Int32) (q6 : Int32) (dy : Nat → Int32) : Prop :=
  mq 1 = nI cc ∧ q6 = nI cc ∧ cc ≤ 14 ∧ (∀ j, j < 14 → r j < 14) ∧ (∀ i j, i < 14 → j < 14 → r i = r j → i = j) ∧ (∀ p, p < 14 → ∀ i, i < 6 → mr p i 0 = nI i ∧ zb (mr p i 5)) ∧ ∀ p, p < cc → ∃ m, SM (fun k => dy (64 * p + k)) (mg (r p)) (mu (r p)) (mr (r p)) ∧ OKs B m (fun k => dy (64 * p + k))
theorem nI_lt_f {a b : Nat} (h : b ≤ a) (ha : a < 2 ^ 31) : ¬ nI a < nI b := fun q => by
  have := (nI_ltI (by omega) (by omega)).mp q
  omega
theorem nI_inj {a b : Nat} (ha : a < 2 ^ 31) (hb : b < 2 ^ 31) (h : nI a = nI b) : a = b := by
  have h1 := congrArg Int32.toInt h
  rw [nI_toInt ha, nI_toInt hb] at h1
  omega
/-- the row of states, turned by one -/
theorem fo_loop {q : Nat → Int32} {r : Nat → Nat} : ∀ (d i : Nat) (r1 : Nat → Nat), i + d = 14 → 1 ≤ i → (∀ j, j < i - 1 → r1 j = r (j + 1)) → r1 (i - 1) = r 0 → (∀ j, i ≤ j → r1 j = r j) →
    (lp_X0_forgetOldest_2 q r d i r1).1 = upd q 1 (q 1 - 1) ∧ (∀ j, j < 13 → (lp_X0_forgetOldest_2 q r d i r1).2 j = r (j + 1)) ∧ (lp_X0_forgetOldest_2 q r d i r1).2 13 = r 0
  | 0, i, r1, hd, h1, a, b, c => by
    have : i = 14 := by omega
    subst this
    exact ⟨rfl, fun j hj => a j (by omega), b⟩
  | d + 1, i, r1, hd, h1, a, b, c => by
    refine fo_loop (q := q) (r := r) d (i + 1) (updN (updN r1 (i - 1) (r1 i)) i (r1 (i - 1))) (by omega) (by omega) (fun j hj => ?_) ?_ (fun j hj => ?_)
    · unfold updN
      rw [if_neg (by omega)]
      by_cases hji : j = i - 1
      · rw [if_pos hji, c i (Nat.le_refl _), hji, show i - 1 + 1 = i by omega]
      · rw [if_neg hji]; exact a j (by omega)
    · unfold updN
      rw [if_pos (by omega)]; exact b
    · unfold updN
      rw [if_neg (by omega), if_neg (by omega)]; exact c j (by omega)
theorem fo_eq2 (q : Nat → Int32) (r : Nat → Nat) : (sX0_forgetOldest q r).1 = upd q 1 (q 1 - 1) ∧ (∀ j, j < 13 → (sX0_forgetOldest q r).2 j = r (j + 1)) ∧ (sX0_forgetOldest q r).2 13 = r 0 :=
  fo_loop 13 1 r rfl (Nat.le_refl _) (fun j h => absurd h (Nat.not_lt_zero _)) rfl (fun _ _ => rfl)
theorem sh_loop {q tx f ft dy kp ik jb : Nat → Int32} {cc : Nat} : ∀ (d i : Nat) (dy1 : Nat → Int32), i + d = 832 → (∀ k, dy1 k = if k < i then dy (k + 64) else dy k) →
    ∃ dy2 : Nat → Int32, lp_X8_remember_11 q tx f ft dy kp ik jb cc d i dy1 = (upd q 6 14, sX8_copyState 0 832 f dy2) ∧ ∀ k, k < 832 → dy2 k = dy (k + 64)
  | 0, i, dy1, hd, h => ⟨dy1, rfl, fun k hk => by rw [h k, if_pos (by omega)]⟩
  | d + 1, i, dy1, hd, h => by
    refine sh_loop d (i + 1) (upd dy1 i (dy1 (i + 64))) (by omega) (fun k => ?_)
    by_cases hk : k = i
    · subst hk
      rw [pk_us, if_pos (by omega), h, if_neg (by omega)]
    · rw [pk_un hk, h k]
      by_cases h2 : k < i
      · rw [if_pos h2, if_pos (by omega)]
      · rw [if_neg h2, if_neg (by omega)]
section P9
variable {f g u : Nat → Int32} {rv : Nat → Nat → Int32} {B m cc : Nat} {mq : Nat → Int32} {r : Nat → Nat} {mg mu : Nat → Nat → Int32} {mr : Nat → Nat → Nat → Int32} {q tx ft dy kp ik jb : Nat → Int32}
theorem MEM.mono {B' : Nat} {q6 : Int32} (h : B ≤ B') (M : MEM B cc mq r mg mu mr q6 dy) : MEM B' cc mq r mg mu mr q6 dy := by
  obtain ⟨a1, a2, a3, a4, a5, a6, a7⟩ := M
  refine ⟨a1, a2, a3, a4, a5, a6, fun p hp => ?_⟩
  obtain ⟨m, h1, h2⟩ := a7 p hp
  exact ⟨m, h1, h2.mono h⟩
theorem updS_s {R : Nat → Nat → Nat → Int32} {k : Nat} {v : Nat → Nat → Int32} : updS R k v k = v := if_pos rfl
theorem updS_n {R : Nat → Nat → Nat → Int32} {k j : Nat} {v : Nat → Nat → Int32} (h : j ≠ k) : updS R k v j = R j := if_neg h
theorem rem_mem (M : MEM B cc mq r mg mu mr (q 6) dy) (sr : SM f g u rv) (ok : OKs B m f) : ∃ cc' : Nat, MEM B cc' (sX0_remember mq r mg mu mr g u rv cc).1 (sX0_remember mq r mg mu mr g u rv cc).2.1 (sX0_remember mq r mg mu mr g u rv cc).2.2.1 (sX0_remember mq r mg mu mr g u rv cc).2.2.2.1 (sX0_remember mq r mg mu mr g u rv cc).2.2.2.2 ((sX8_remember q tx f ft dy kp ik jb cc).1 6) (sX8_remember q tx f ft dy kp ik jb cc).2 ∧ ∀ x, x ≠ 6 → (sX8_remember q tx f ft dy kp ik jb cc).1 x = q x := by
  obtain ⟨a1, a2, a3, a4, a5, a6, a7⟩ := M
  by_cases hcc : cc < 14
  · have eC : sX0_remember mq r mg mu mr g u rv cc = (upd mq 1 (nI (cc + 1)), r, updR mg (r cc) (sX5_copyFrom (mg (r cc)) (mu (r cc)) (mr (r cc)) g u rv).1, updR mu (r cc) (sX5_copyFrom (mg (r cc)) (mu (r cc)) (mr (r cc)) g u rv).2.1, updS mr (r cc) (sX5_copyFrom (mg (r cc)) (mu (r cc)) (mr (r cc)) g u rv).2.2) := by
      have c1 : nI cc < nI 14 := (nI_ltI (by omega) (by decide)).mpr hcc
      have c2 : ¬ nI cc < 0 := nI_lt_f (b := 0) (Nat.zero_le _) (by omega)
      have c3 : ¬ nI 14 ≤ nI cc := Int32.not_le.mpr c1
      unfold sX0_remember
      rw [if_pos c1, if_neg c2, if_neg c3]
      rfl
    have eM : sX8_remember q tx f ft dy kp ik jb cc = (upd q 6 (q 6 + 1), sX8_copyState 0 (64 * cc) f dy) := by
      have c1 : ¬ nI cc = 14 := fun z => by
        have := nI_inj (a := cc) (b := 14) (by omega) (by decide) z
        omega
      unfold sX8_remember
      rw [if_neg c1]
      rfl
    rw [eC, eM]
    dsimp only
    have hr := a4 cc hcc
    have n0 : N0 (mr (r cc)) := fun i hi => (a6 (r cc) hr i hi).1
    refine ⟨cc + 1, ⟨pk_us, ?_, by omega, a4, a5, fun p hp i hi => ?_, fun p hp => ?_⟩, fun x hx => pk_un hx⟩
    · show upd q 6 (q 6 + 1) 6 = _
      rw [pk_us, a2]; exact nI_1 cc
    · show updS mr (r cc) _ p i 0 = _ ∧ zb (updS mr (r cc) _ p i 5)
      by_cases hpr : p = r cc
      · subst hpr
        rw [updS_s]
        exact ⟨cf_0 n0 hi, sm_zb (cf_sm sr n0) ok i hi⟩
      · rw [updS_n hpr]; exact a6 p hp i hi
    · by_cases hpc : p = cc
      · subst hpc
        refine ⟨m, ?_, ?_⟩
        · show SM _ (updR mg (r p) _ (r p)) (updR mu (r p) _ (r p)) (updS mr (r p) _ (r p))
          rw [updR_s, updR_s, updS_s]
          refine SM.cg (fun x hx => ?_) (cf_sm sr n0)
          show sX8_copyState 0 (64 * p) f dy (64 * p + x) = f x
          rw [cp_in hx, Nat.zero_add]
        · refine OKs.cg (fun x hx => ?_) ok
          show sX8_copyState 0 (64 * p) f dy (64 * p + x) = f x
          rw [cp_in hx, Nat.zero_add]
      · obtain ⟨m', s1, s2⟩ := a7 p (by omega)
        have hne : r p ≠ r cc := fun z => hpc (a5 p cc (by omega) hcc z)
        refine ⟨m', ?_, ?_⟩
        · show SM _ (updR mg (r cc) _ (r p)) (updR mu (r cc) _ (r p)) (updS mr (r cc) _ (r p))
          rw [updR_n hne, updR_n hne, updS_n hne]
          exact SM.cg (fun x hx => cp_out (Or.inl (by omega))) s1
        · exact OKs.cg (fun x hx => cp_out (Or.inl (by omega))) s2
  · have h14 : cc = 14 := by omega
    subst h14
    obtain ⟨o1, o2, o3⟩ := fo_eq2 mq r
    have eC : sX0_remember mq r mg mu mr g u rv 14 = (upd (sX0_forgetOldest mq r).1 1 14, (sX0_forgetOldest mq r).2, updR mg ((sX0_forgetOldest mq r).2 13) (sX5_copyFrom (mg ((sX0_forgetOldest mq r).2 13)) (mu ((sX0_forgetOldest mq r).2 13)) (mr ((sX0_forgetOldest mq r).2 13)) g u rv).1, updR mu ((sX0_forgetOldest mq r).2 13) (sX5_copyFrom (mg ((sX0_forgetOldest mq r).2 13)) (mu ((sX0_forgetOldest mq r).2 13)) (mr ((sX0_forgetOldest mq r).2 13)) g u rv).2.1, updS mr ((sX0_forgetOldest mq r).2 13) (sX5_copyFrom (mg ((sX0_forgetOldest mq r).2 13)) (mu ((sX0_forgetOldest mq r).2 13)) (mr ((sX0_forgetOldest mq r).2 13)) g u rv).2.2) := by
      have c1 : ¬ nI 14 < nI 14 := nI_lt_f (Nat.le_refl _) (by decide)
      have c2 : ¬ nI 14 ≤ 13 := by decide
      unfold sX0_remember
      rw [if_neg c1]
      unfold sX0_remember_z_2
      rw [if_neg c2]
      rfl
    obtain ⟨dy2, s1, s2⟩ := sh_loop (q := q) (tx := tx) (f := f) (ft := ft) (dy := dy) (kp := kp) (ik := ik) (jb := jb) (cc := 14) 832 0 dy rfl (fun k => (if_neg (Nat.not_lt_zero k)).symm)
    have eM : sX8_remember q tx f ft dy kp ik jb 14 = (upd q 6 14, sX8_copyState 0 832 f dy2) := by
      unfold sX8_remember
      rw [if_pos (show nI 14 = 14 from rfl)]
      exact s1
    rw [eC, eM]
    dsimp only
    generalize (sX0_forgetOldest mq r).2 = r' at o2 o3 ⊢
    have hr' : ∀ j, j < 14 → r' j = if j < 13 then r (j + 1) else r 0 := fun j hj => by
      by_cases h : j < 13
      · rw [if_pos h, o2 j h]
      · rw [if_neg h, show j = 13 by omega, o3]
    have b4 : ∀ j, j < 14 → r' j < 14 := fun j hj => by
      rw [hr' j hj]
      by_cases h : j < 13
      · rw [if_pos h]; exact a4 _ (by omega)
      · rw [if_neg h]; exact a4 _ (by omega)
    have b5 : ∀ i j, i < 14 → j < 14 → r' i = r' j → i = j := fun i j hi hj h => by
      rw [hr' i hi, hr' j hj] at h
      by_cases h1 : i < 13
      · rw [if_pos h1] at h
        by_cases h2 : j < 13
        · rw [if_pos h2] at h
          have := a5 _ _ (by omega) (by omega) h
          omega
        · rw [if_neg h2] at h
          have := a5 _ _ (by omega) (by omega) h
          omega
      · rw [if_neg h1] at h
        by_cases h2 : j < 13
        · rw [if_pos h2] at h
          have := a5 _ _ (by omega) (by omega) h
          omega
        · omega
    have hr := b4 13 (by decide)
    have n0 : N0 (mr (r' 13)) := fun i hi => (a6 (r' 13) hr i hi).1
    refine ⟨14, ⟨pk_us, pk_us, by omega, b4, b5, fun p hp i hi => ?_, fun p hp => ?_⟩, fun x hx => pk_un hx⟩
    · show updS mr (r' 13) _ p i 0 = _ ∧ zb (updS mr (r' 13) _ p i 5)
      by_cases hpr : p = r' 13
      · subst hpr
        rw [updS_s]
        exact ⟨cf_0 n0 hi, sm_zb (cf_sm sr n0) ok i hi⟩
      · rw [updS_n hpr]; exact a6 p hp i hi
    · by_cases hpc : p = 13
      · subst hpc
        refine ⟨m, ?_, ?_⟩
        · show SM _ (updR mg (r' 13) _ (r' 13)) (updR mu (r' 13) _ (r' 13)) (updS mr (r' 13) _ (r' 13))
          rw [updR_s, updR_s, updS_s]
          refine SM.cg (fun x hx => ?_) (cf_sm sr n0)
          show sX8_copyState 0 832 f dy2 (832 + x) = f x
          rw [cp_in hx, Nat.zero_add]
        · refine OKs.cg (fun x hx => ?_) ok
          show sX8_copyState 0 832 f dy2 (832 + x) = f x
          rw [cp_in hx, Nat.zero_add]
      · obtain ⟨m', t1, t2⟩ := a7 (p + 1) (by omega)
        have hne : r' p ≠ r' 13 := fun z => hpc (b5 p 13 (by omega) (by decide) z)
        have e : ∀ x, x < 64 → sX8_copyState 0 832 f dy2 (64 * p + x) = dy (64 * (p + 1) + x) := fun x hx => by
          rw [cp_out (Or.inl (by omega)), s2 _ (by omega), show 64 * p + x + 64 = 64 * (p + 1) + x by omega]
        refine ⟨m', ?_, OKs.cg e t2⟩
        show SM _ (updR mg (r' 13) _ (r' p)) (updR mu (r' 13) _ (r' p)) (updS mr (r' 13) _ (r' p))
        rw [updR_n hne, updR_n hne, updS_n hne, o2 p (by omega)]
        exact SM.cg e t1
/-- a room's field is changed -/
theorem sm_room (sr : SM f g u rv) {k w : Nat} (hk : k < 6) (hw : w < 8) (v : Int32) : SM (sX8_lay f k w v) g u (updR rv k (upd (rv k) (1 + w) v)) := by
  unfold sX8_lay
  refine ⟨fun j h1 h2 => ?_, fun j hj => ?_, fun i hi => ?_, fun i x hi hx => ?_⟩
  · rw [pk_un (by omega)]; exact sr.1 j h1 h2
  · rw [pk_un (by omega)]; exact sr.2.1 j hj
  · by_cases hik : i = k
    · subst hik
      rw [updR_s, pk_un (by omega)]; exact sr.2.2.1 i hi
    · rw [updR_n hik]; exact sr.2.2.1 i hi
  · by_cases hik : i = k
    · subst hik
      rw [updR_s]
      by_cases hxw : x = w
      · subst hxw
        rw [pk_us, pk_us]
      · rw [pk_un (by omega), pk_un (by omega)]; exact sr.2.2.2 i x hi hx
    · rw [updR_n hik, pk_un (by omega)]; exact sr.2.2.2 i x hi hx
theorem n0_room (h : N0 rv) {k w : Nat} (v : Int32) : N0 (updR rv k (upd (rv k) (1 + w) v)) := fun i hi => by
  by_cases hik : i = k
  · subst hik
    rw [updR_s, pk_un (by omega)]; exact h i hi
  · rw [updR_n hik]; exact h i hi
theorem ok_door (ok : OKs B m f) {k : Nat} (hk : k < 6) {v : Int32} (hv : zb v) : OKs B m (sX8_lay f k 4 v) := by
  unfold sX8_lay
  obtain ⟨a1, a2, a3, a4, a5, a6, a7, a8, a9, a10, a11⟩ := ok
  refine ⟨a1, ?_, ?_, ?_, ?_, ?_, ?_, ?_, ?_, ?_, fun i hi => ?_⟩
  · rw [pk_un (by omega)]; exact a2
  · rw [pk_un (by omega)]; exact a3
  · rw [pk_un (by omega)]; exact a4
  · rw [pk_un (by omega)]; exact a5
  · rw [pk_un (by omega)]; exact a6
  · rw [pk_un (by omega)]; exact a7
  · rw [pk_un (by omega)]; exact a8
  · rw [pk_un (by omega)]; exact a9
  · rw [pk_un (by omega), pk_un (by omega), pk_un (by omega)]; exact a10
  · obtain ⟨o1, o2, o3, o4⟩ := a11 i hi
    unfold RO
    have hz : zb (upd f (16 + 8 * k + 4) v (16 + 8 * i + 4)) := by
      by_cases hik : i = k
      · subst hik; rw [pk_us]; exact hv
      · rw [pk_un (by omega)]; exact o3
    rw [pk_un (show 16 + 8 * i ≠ 16 + 8 * k + 4 by omega), pk_un (show 16 + 8 * i + 5 ≠ 16 + 8 * k + 4 by omega), pk_un (show 16 + 8 * i + 3 ≠ 16 + 8 * k + 4 by omega), pk_un (show 16 + 8 * i + 2 ≠ 16 + 8 * k + 4 by omega)]
    exact ⟨o1, o2, hz, o4⟩
theorem ok_temp (ok : OKs B m f) {k : Nat} (hk : k < 6) {v : Int32} (hv : -400 ≤ v.toInt ∧ v.toInt ≤ 400) : OKs B m (sX8_lay f k 3 v) := by
  unfold sX8_lay
  obtain ⟨a1, a2, a3, a4, a5, a6, a7, a8, a9, a10, a11⟩ := ok
  refine ⟨a1, ?_, ?_, ?_, ?_, ?_, ?_, ?_, ?_, ?_, fun i hi => ?_⟩
  · rw [pk_un (by omega)]; exact a2
  · rw [pk_un (by omega)]; exact a3
  · rw [pk_un (by omega)]; exact a4
  · rw [pk_un (by omega)]; exact a5
  · rw [pk_un (by omega)]; exact a6
  · rw [pk_un (by omega)]; exact a7
  · rw [pk_un (by omega)]; exact a8
  · rw [pk_un (by omega)]; exact a9
  · rw [pk_un (by omega), pk_un (by omega), pk_un (by omega)]; exact a10
  · obtain ⟨o1, o2, o3, o4, o5, o6⟩ := a11 i hi
    unfold RO
    have hz : i < m → (-400 ≤ (upd f (16 + 8 * k + 3) v (16 + 8 * i + 3)).toInt ∧ (upd f (16 + 8 * k + 3) v (16 + 8 * i + 3)).toInt ≤ 400) := fun him => by
      by_cases hik : i = k
      · subst hik; rw [pk_us]; exact hv
      · rw [pk_un (by omega)]; exact (o6 him).1
    rw [pk_un (show 16 + 8 * i ≠ 16 + 8 * k + 3 by omega), pk_un (show 16 + 8 * i + 5 ≠ 16 + 8 * k + 3 by omega), pk_un (show 16 + 8 * i + 4 ≠ 16 + 8 * k + 3 by omega), pk_un (show 16 + 8 * i + 2 ≠ 16 + 8 * k + 3 by omega)]
    exact ⟨o1, o2, o3, o4, o5, fun him => ⟨hz him, (o6 him).2⟩⟩
end P9
