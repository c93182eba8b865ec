/-! PURE: a number is read -/
section P19
variable {q0 tq sg tx : Nat → Int32} {q2 : Int32} {sz : Nat}
theorem sign_in (T : TXT tq sg q2 tx sz) {p : Nat} (hp : p < sz) : sX6_signAt tq sg (nI p) = tx p := by
  obtain ⟨t1, t2, t3, t4⟩ := T
  have c1 : ¬ nI p < 0 := nI_lt_f (b := 0) (Nat.zero_le _) (by omega)
  have c2 : ¬ tq 1 ≤ nI p := by
    rw [t1]; exact Int32.not_le.mpr ((nI_ltI (by omega) (by omega)).mpr hp)
  have c3 : ¬ nI 120 ≤ nI p := Int32.not_le.mpr ((nI_ltI (by omega) (by decide)).mpr (by omega))
  have e : (nI p).toNatClampNeg = p := by rw [tc_n, nI_i (by omega)]; omega
  unfold sX6_signAt
  rw [if_neg c1, if_neg c2, if_neg c3, e]
  exact (t4 p hp).1
theorem sign_out (T : TXT tq sg q2 tx sz) {p : Nat} (hp : sz ≤ p) (h2 : p < 1000) : sX6_signAt tq sg (nI p) = -1 := by
  obtain ⟨t1, t2, t3, t4⟩ := T
  have c1 : ¬ nI p < 0 := nI_lt_f (b := 0) (Nat.zero_le _) (by omega)
  have c2 : tq 1 ≤ nI p := by
    rw [t1]; exact (nI_leI (by omega) (by omega)).mpr hp
  unfold sX6_signAt
  rw [if_neg c1, if_pos c2]
theorem at_in {z : Nat → Int32} (hz : z 2 = nI sz) (hs : sz ≤ 120) {p : Nat} (hp : p < sz) : sX8_at z tx p = tx p := by
  unfold sX8_at
  rw [hz, if_neg (Int32.not_le.mpr ((nI_ltI (by omega) (by omega)).mpr hp))]
theorem at_out {z : Nat → Int32} (hz : z 2 = nI sz) (hs : sz ≤ 120) {p : Nat} (hp : sz ≤ p) (h2 : p < 1000) : sX8_at z tx p = -1 := by
  unfold sX8_at
  rw [hz, if_pos ((nI_leI (by omega) (by omega)).mpr hp)]
theorem beg_eq {x lo hi : Int32} {mo : Nat} : ∀ (d i A C : Nat), A * 10 ^ d < 2 ^ 31 → C * 10 ^ d + 10 ^ d < 2 ^ 31 → lp_X1_isBegun_9 x mo lo hi d i (nI A) (nI C) = (if hi < nI (A * 10 ^ d) then 0 else if nI (C * 10 ^ d + 10 ^ d - 1) < lo then 0 else 1)
  | 0, i, A, C, h1, h2 => by
    rw [Nat.pow_zero, Nat.mul_one, Nat.mul_one, Nat.add_sub_cancel]; rfl
  | d + 1, i, A, C, h1, h2 => by
    have hp : 0 < 10 ^ d := Nat.pow_pos (by decide)
    have e10 : 10 ^ (d + 1) = 10 * 10 ^ d := Nat.pow_add_one'
    have a1 : A * 10 * 10 ^ d = A * 10 ^ (d + 1) := by rw [e10, Nat.mul_assoc]
    have a2 : (C * 10 + 9) * 10 ^ d + 10 ^ d = C * 10 ^ (d + 1) + 10 ^ (d + 1) := by
      rw [e10, Nat.add_mul, Nat.mul_assoc]; omega
    have l1 : A * 10 ≤ A * 10 * 10 ^ d := Nat.le_mul_of_pos_right _ hp
    have l2 : C * 10 + 9 ≤ (C * 10 + 9) * 10 ^ d := Nat.le_mul_of_pos_right _ hp
    have ih := beg_eq (x := x) (lo := lo) (hi := hi) (mo := mo) d (i + 1) (A * 10) (C * 10 + 9) (by omega) (by omega)
    have eA : nI A * 10 = nI (A * 10) := mlI (b := 10) rfl (by omega) (by omega)
    have eB : nI C * 10 + 9 = nI (C * 10 + 9) := by
      rw [mlI (b := 10) rfl (by omega) (by omega)]
      exact adI (b := 9) (by omega)
    show lp_X1_isBegun_9 x mo lo hi d (i + 1) (nI A * 10) (nI C * 10 + 9) = _
    rw [eA, eB, ih, a1, a2]
def RDR (q : Nat → Int32) (p : Nat) (bad : Int32) : Prop := q 1 = nI p ∧ q 2 = bad
def RFR (z : Nat → Int32) (p : Nat) (good : Int32) (sz : Nat) : Prop := z 11 = nI p ∧ z 13 = good ∧ z 2 = nI sz
def K12 (q q' : Nat → Int32) : Prop := ∀ k, k ≠ 1 → k ≠ 2 → q' k = q k
def K113 (q q' : Nat → Int32) : Prop := ∀ k, k ≠ 11 → k ≠ 13 → q' k = q k
/-- what reading a number gives on both sides -/
def NUMR (q z : Nat → Int32) (sz p n LO HI : Nat) (C R : Int32 × (Nat → Int32)) : Prop :=
  K12 q C.2 ∧ K113 z R.2 ∧ ((∃ e, p ≤ e ∧ e ≤ sz ∧ RDR C.2 e 1 ∧ RFR R.2 e 0 sz) ∨ (p + n ≤ sz ∧ RDR C.2 (p + n) 0 ∧ RFR R.2 (p + n) 1 sz ∧ ∃ V, C.1 = nI V ∧ R.1 = nI V ∧ LO ≤ V ∧ V ≤ HI))
theorem fg_bad {z : Nat → Int32} {sp dg i : Nat} {lo hi u : Int32} {q1 : Nat → Int32} (h : q1 13 = 0) : ∀ (d : Nat) (u1 v1 : Int32) (p1 : Nat), lp_X8_figures_28 z tx sp dg lo hi i u d u1 v1 q1 p1 = (v1, q1)
  | 0, u1, v1, p1 => rfl
  | d + 1, u1, v1, p1 => if_pos h
theorem num_loop (T : TXT tq sg q2 tx sz) {q zz : Nat → Int32} {dg sp j LO HI : Nat} {u : Int32} (hdg : dg ≤ 4) (hHI : HI ≤ 9999) (hLO : LO ≤ 9999) : ∀ (d i R p : Nat) (q1 z1 : Nat → Int32), i + d = dg + 1 → 1 ≤ i → R * 10 ^ d < 10 ^ dg → p ≤ sz → RDR q1 p 0 → RFR z1 p 1 sz → (d = 0 → LO ≤ R ∧ R ≤ HI) →
    NUMR q1 z1 sz p d LO HI (lp_X1_readNumber_6 q tq sg dg (nI LO) (nI HI) d i (nI R) q1) (lp_X8_figures_28 zz tx sp dg (nI LO) (nI HI) j u d (nI (10 ^ d / 10)) (nI (R * 10 ^ d)) z1 p)
  | 0, i, R, p, q1, z1, hd, hi, hR, hp, h1, h2, h3 => by
    refine ⟨fun _ _ _ => rfl, fun _ _ _ => rfl, Or.inr ⟨hp, h1, h2, R, rfl, ?_, h3 rfl⟩⟩
    show nI (R * 10 ^ 0) = nI R
    rw [Nat.pow_zero, Nat.mul_one]
  | d + 1, i, R, p, q1, z1, hd, hi, hR, hp, h1, h2, h3 => by
    have hsz := T.2.2.1
    have hpw : 10 ^ dg ≤ 10 ^ 4 := Nat.pow_le_pow_right (by decide) hdg
    have hpd : 0 < 10 ^ d := Nat.pow_pos (by decide)
    have hpd2 : 10 ^ d ≤ 10 ^ 3 := Nat.pow_le_pow_right (by decide) (by omega)
    have e10 : 10 ^ (d + 1) = 10 * 10 ^ d := Nat.pow_add_one'
    have e10d : 10 ^ (d + 1) / 10 = 10 ^ d := by rw [e10]; exact Nat.mul_div_cancel_left _ (by decide)
    have hid : dg - i = d := by omega
    have eC : lp_X1_readNumber_6 q tq sg dg (nI LO) (nI HI) (d + 1) i (nI R) q1 = ((fun (z_2 : (Nat → Int32)) => (if (z_2 2) = 0 then (lp_X1_readNumber_6 q tq sg dg (nI LO) (nI HI) d (i + 1) (((nI R * 10) + (sX6_signAt tq sg (q1 1))) - 48) z_2) else (0, z_2))) (sX1_moveIf q1 (if (sX6_signAt tq sg (q1 1)) < 48 then 0 else (if 57 < (sX6_signAt tq sg (q1 1)) then 0 else (if (sX1_isBegun (((nI R * 10) + (sX6_signAt tq sg (q1 1))) - 48) (dg - i) (nI LO) (nI HI)) = 0 then 0 else 1))))) := rfl
    have eR : lp_X8_figures_28 zz tx sp dg (nI LO) (nI HI) j u (d + 1) (nI (10 ^ (d + 1) / 10)) (nI (R * 10 ^ (d + 1))) z1 p = (if (z1 13) = 0 then ((nI (R * 10 ^ (d + 1))), z1) else (if (sX8_in (((sX8_at z1 tx p) - 48).toInt64) 0 9) = 0 then (lp_X8_figures_28 zz tx sp dg (nI LO) (nI HI) j u d ((nI (10 ^ (d + 1) / 10)) / 10) (nI (R * 10 ^ (d + 1))) (upd (upd z1 11 (nI (p + 0))) 13 0) (p + 0)) else (if (nI HI) < ((nI (R * 10 ^ (d + 1))) + (((sX8_at z1 tx p) - 48) * (nI (10 ^ (d + 1) / 10)))) then (lp_X8_figures_28 zz tx sp dg (nI LO) (nI HI) j u d ((nI (10 ^ (d + 1) / 10)) / 10) (nI (R * 10 ^ (d + 1))) (upd (upd z1 11 (nI (p + 0))) 13 0) (p + 0)) else (if ((((nI (R * 10 ^ (d + 1))) + (((sX8_at z1 tx p) - 48) * (nI (10 ^ (d + 1) / 10)))) + (nI (10 ^ (d + 1) / 10))) - 1) < (nI LO) then (lp_X8_figures_28 zz tx sp dg (nI LO) (nI HI) j u d ((nI (10 ^ (d + 1) / 10)) / 10) (nI (R * 10 ^ (d + 1))) (upd (upd z1 11 (nI (p + 0))) 13 0) (p + 0)) else (lp_X8_figures_28 zz tx sp dg (nI LO) (nI HI) j u d ((nI (10 ^ (d + 1) / 10)) / 10) ((nI (R * 10 ^ (d + 1))) + (((sX8_at z1 tx p) - 48) * (nI (10 ^ (d + 1) / 10)))) (upd (upd z1 11 (nI (p + 1))) 13 1) (p + 1)))))) := rfl
    have hz13 : ¬ z1 13 = 0 := by rw [h2.2.1]; decide
    rw [eC, eR, if_neg hz13, h1.1]
    -- the two ways to fail
    have bad : NUMR q1 z1 sz p (d + 1) LO HI (0, sX1_moveIf q1 0) (lp_X8_figures_28 zz tx sp dg (nI LO) (nI HI) j u d ((nI (10 ^ (d + 1) / 10)) / 10) (nI (R * 10 ^ (d + 1))) (upd (upd z1 11 (nI (p + 0))) 13 0) (p + 0)) := by
      rw [fg_bad pk_us]
      have em : sX1_moveIf q1 0 = upd q1 2 1 := if_pos rfl
      rw [em]
      refine ⟨fun k k1 k2 => pk_un k2, fun k k11 k13 => ?_, Or.inl ⟨p, Nat.le_refl _, hp, ⟨?_, ?_⟩, ?_, ?_, ?_⟩⟩
      · show upd (upd z1 11 (nI (p + 0))) 13 0 k = z1 k
        rw [pk_un k13, pk_un k11]
      · show upd q1 2 1 1 = nI p
        rw [pk_un (by decide)]; exact h1.1
      · show upd q1 2 1 2 = 1
        exact pk_us
      · show upd (upd z1 11 (nI (p + 0))) 13 0 11 = nI p
        rw [pk_un (by decide), pk_us]; rfl
      · show upd (upd z1 11 (nI (p + 0))) 13 0 13 = 0
        exact pk_us
      · show upd (upd z1 11 (nI (p + 0))) 13 0 2 = nI sz
        rw [pk_un (by decide), pk_un (by decide)]; exact h2.2.2
    have badC : (fun (z_2 : (Nat → Int32)) => (if (z_2 2) = 0 then (lp_X1_readNumber_6 q tq sg dg (nI LO) (nI HI) d (i + 1) (((nI R * 10) + (sX6_signAt tq sg (nI p))) - 48) z_2) else (0, z_2))) (sX1_moveIf q1 0) = (0, sX1_moveIf q1 0) := by
      have em : sX1_moveIf q1 0 = upd q1 2 1 := if_pos rfl
      rw [em]
      exact if_neg (by rw [pk_us]; decide)
    by_cases hps : p < sz
    · have es := sign_in T hps
      have ea := at_in (tx := tx) h2.2.2 hsz hps
      obtain ⟨tx1, tx2, tx3⟩ := T.2.2.2 p hps
      rw [ea]
      obtain ⟨c, hc⟩ : ∃ c : Nat, c = (tx p).toInt.toNat := ⟨_, rfl⟩
      have ecx : tx p = nI c := Int32.toInt_inj.mp (by rw [nI_i (by omega)]; omega)
      have hc255 : c ≤ 255 := by omega
      by_cases hdig : 48 ≤ c ∧ c ≤ 57
      · obtain ⟨D, hD⟩ : ∃ D, D = c - 48 := ⟨_, rfl⟩
        have eD : tx p - 48 = nI D := by
          rw [ecx, hD]; exact sbI (b := 48) hdig.1 (by omega)
        have hD9 : D ≤ 9 := by omega
        have n1 : ¬ sX6_signAt tq sg (nI p) < 48 := by
          rw [es, ecx, lt_i, nI_i (by omega)]
          have : (48 : Int32).toInt = 48 := rfl
          omega
        have n2 : ¬ 57 < sX6_signAt tq sg (nI p) := by
          rw [es, ecx, lt_i, nI_i (by omega)]
          have : (57 : Int32).toInt = 57 := rfl
          omega
        have n3 : ¬ sX8_in ((nI D).toInt64) 0 9 = 0 := fun z => (in_nI (a := 0) (b := 9) (by omega) rfl rfl).mp z (by omega)
        have hRs : R * 10 ^ (d + 1) = R * 10 * 10 ^ d := by rw [e10, Nat.mul_assoc]
        have l1 : R * 10 ≤ R * 10 * 10 ^ d := Nat.le_mul_of_pos_right _ hpd
        have hR1 : R * 10 < 10000 := by omega
        have eRD : nI R * 10 + tx p - 48 = nI (R * 10 + D) := by
          rw [mlI (b := 10) rfl (by omega) (by omega), ecx, adI (by omega)]
          have : nI (R * 10 + c) - nI 48 = nI (R * 10 + c - 48) := sbI (by omega) (by omega)
          have e2 : R * 10 + c - 48 = R * 10 + D := by omega
          rw [← e2]; exact this
        have hDm : D * 10 ^ d ≤ 9 * 10 ^ 3 := Nat.mul_le_mul hD9 hpd2
        have hV : R * 10 ^ (d + 1) + D * 10 ^ d = (R * 10 + D) * 10 ^ d := by rw [hRs, Nat.add_mul]
        have eV : nI (R * 10 ^ (d + 1)) + nI D * nI (10 ^ d) = nI ((R * 10 + D) * 10 ^ d) := by
          rw [mlI (b := 10 ^ d) (nI_i (by omega)) (by omega) (by omega), adI (by omega), hV]
        have hVb : (R * 10 + D) * 10 ^ d < 20000 := by omega
        have eW : nI ((R * 10 + D) * 10 ^ d) + nI (10 ^ d) - 1 = nI ((R * 10 + D) * 10 ^ d + 10 ^ d - 1) := by
          rw [adI (by omega)]
          exact sbI (b := 1) (by omega) (by omega)
        have eBg : sX1_isBegun (nI (R * 10 + D)) d (nI LO) (nI HI) = (if nI HI < nI ((R * 10 + D) * 10 ^ d) then 0 else if nI ((R * 10 + D) * 10 ^ d + 10 ^ d - 1) < nI LO then 0 else 1) := beg_eq d 0 (R * 10 + D) (R * 10 + D) (by omega) (by omega)
        rw [if_neg n1, if_neg n2, es, eRD, hid, eBg, eD, if_neg n3, e10d, eV, eW]
        rw [es, eRD] at badC
        rw [e10d] at bad
        by_cases g1 : nI HI < nI ((R * 10 + D) * 10 ^ d)
        · rw [if_pos g1, if_pos (show (0 : Int32) = 0 from rfl), if_pos g1, badC]
          exact bad
        · rw [if_neg g1, if_neg g1]
          by_cases g2 : nI ((R * 10 + D) * 10 ^ d + 10 ^ d - 1) < nI LO
          · rw [if_pos g2, if_pos (show (0 : Int32) = 0 from rfl), if_pos g2, badC]
            exact bad
          · rw [if_neg g2, if_neg (show ¬ (1 : Int32) = 0 by decide), if_neg g2]
            have em : sX1_moveIf q1 1 = upd q1 1 (q1 1 + 1) := by
              unfold sX1_moveIf
              rw [if_neg (by decide), if_pos h1.2]
            rw [em]
            have e2 : upd q1 1 (q1 1 + 1) 2 = 0 := by rw [pk_un (by decide)]; exact h1.2
            dsimp only
            rw [if_pos e2]
            have eU : nI (10 ^ d) / 10 = nI (10 ^ d / 10) := dv (b := 10) rfl (by decide) (by omega)
            rw [eU]
            have g1' : (R * 10 + D) * 10 ^ d ≤ HI := by
              have := mt (nI_ltI (a := HI) (b := (R * 10 + D) * 10 ^ d) (by omega) (by omega)).mpr g1
              omega
            have g2' : LO ≤ (R * 10 + D) * 10 ^ d + 10 ^ d - 1 := by
              have := mt (nI_ltI (a := (R * 10 + D) * 10 ^ d + 10 ^ d - 1) (b := LO) (by omega) (by omega)).mpr g2
              omega
            have hx1 : (R * 10 + D) * 10 ^ d < 10 ^ dg := by
              have k1 : R * 10 ^ (d + 1) + 10 ^ (d + 1) ≤ 10 ^ dg := by
                have ed : 10 ^ dg = 10 ^ (dg - (d + 1)) * 10 ^ (d + 1) := by rw [← Nat.pow_add]; congr 1; omega
                have hlt : R < 10 ^ (dg - (d + 1)) := by
                  rw [ed] at hR
                  exact Nat.lt_of_mul_lt_mul_right hR
                have := Nat.mul_le_mul_right (10 ^ (d + 1)) (show R + 1 ≤ 10 ^ (dg - (d + 1)) from hlt)
                rw [Nat.add_mul, Nat.one_mul] at this
                rw [ed]; exact this
              have k2 : D * 10 ^ d ≤ 9 * 10 ^ d := Nat.mul_le_mul_right _ hD9
              omega
            have r1 : RDR (upd q1 1 (q1 1 + 1)) (p + 1) 0 := ⟨by rw [pk_us, h1.1]; exact nI_1 p, e2⟩
            have r2 : RFR (upd (upd z1 11 (nI (p + 1))) 13 1) (p + 1) 1 sz := ⟨by rw [pk_un (by decide), pk_us], pk_us, by rw [pk_un (by decide), pk_un (by decide)]; exact h2.2.2⟩
            obtain ⟨i1, i2, i3⟩ := num_loop T (q := q) (zz := zz) (dg := dg) (sp := sp) (j := j) (LO := LO) (HI := HI) (u := u) hdg hHI hLO d (i + 1) (R * 10 + D) (p + 1) (upd q1 1 (q1 1 + 1)) (upd (upd z1 11 (nI (p + 1))) 13 1) (by omega) (by omega) hx1 (by omega) r1 r2 (fun hd0 => by
              subst hd0
              rw [Nat.pow_zero, Nat.mul_one] at g1' g2'
              omega)
            refine ⟨fun k k1 k2 => (i1 k k1 k2).trans (pk_un k1), fun k k1 k2 => (i2 k k1 k2).trans (by rw [pk_un k2, pk_un k1]), ?_⟩
            rcases i3 with ⟨e, e1, e2, e3, e4⟩ | ⟨e1, e2, e3, e4⟩
            · exact Or.inl ⟨e, by omega, e2, e3, e4⟩
            · rw [show p + 1 + d = p + (d + 1) by omega] at e1 e2 e3
              exact Or.inr ⟨e1, e2, e3, e4⟩
      · have ex0 : (if sX6_signAt tq sg (nI p) < 48 then 0 else (if 57 < sX6_signAt tq sg (nI p) then 0 else (if (sX1_isBegun (((nI R * 10) + (sX6_signAt tq sg (nI p))) - 48) (dg - i) (nI LO) (nI HI)) = 0 then 0 else 1)) : Int32) = 0 := by
          have e48 : (48 : Int32).toInt = 48 := rfl
          have e57 : (57 : Int32).toInt = 57 := rfl
          by_cases n1 : sX6_signAt tq sg (nI p) < 48
          · rw [if_pos n1]
          · rw [if_neg n1]
            have n2 : 57 < sX6_signAt tq sg (nI p) := by
              rw [es, ecx, lt_i, nI_i (by omega)] at n1
              rw [es, ecx, lt_i, nI_i (by omega)]
              omega
            rw [if_pos n2]
        have hin : sX8_in ((tx p - 48).toInt64) 0 9 = 0 := by
          have e48 : (48 : Int32).toInt = 48 := rfl
          refine (in32 (a := 0) (b := 9) rfl rfl).mpr ?_
          rw [is_] <;> rw [ecx, nI_i (by omega), e48] <;> omega
        rw [ex0, if_pos hin, badC]
        exact bad
    · have es := sign_out T (Nat.not_lt.mp hps) (by omega)
      have ea := at_out (tx := tx) h2.2.2 hsz (Nat.not_lt.mp hps) (by omega)
      rw [es] at badC ⊢
      rw [ea, if_pos (show (-1 : Int32) < 48 by decide), if_pos (show sX8_in ((-1 - 48 : Int32).toInt64) 0 9 = 0 by decide), badC]
      exact bad
end P19
