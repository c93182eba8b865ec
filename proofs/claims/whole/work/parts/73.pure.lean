/-! PURE: the position of the error; a text is loaded -/
section P24
variable {q tq sg tx f ft dy kp ik jb f0 ft0 jb0 : Nat → Int32} {q2 : Int32} {sz : Nat}
theorem fe_stop {rq : Nat → Int32} {z1 : Nat → Int32} : ∀ (d i : Nat) (q1 : Nat → Int32), lp_X1_firstError_8 rq tq sg z1 d i 0 q1 = (if (q1 2) = 0 then ((-1), q1) else ((q1 1), q1))
  | 0, i, q1 => rfl
  | d + 1, i, q1 => if_pos rfl
theorem err_loop (T : TXT tq sg q2 tx sz) {rq qz : Nat → Int32} {zc zr : Nat → Int32} : ∀ (d i p n : Nat) (q1 z1 ft1 jb1 : Nat → Int32), sz - p < d → p ≤ sz → RDR q1 p 0 → z1 11 = nI p → z1 2 = nI sz →
    (lp_X1_firstError_8 rq tq sg zc d i 1 q1).1 = (lp_X8_readText_31 qz tx ft0 jb0 zr d z1 ft1 jb1 p n).1 ∧ KP z1 (lp_X8_readText_31 qz tx ft0 jb0 zr d z1 ft1 jb1 p n).2.1
  | 0, i, p, n, q1, z1, ft1, jb1, hd, hp, h1, h11, h2 => absurd hd (Nat.not_lt_zero _)
  | d + 1, i, p, n, q1, z1, ft1, jb1, hd, hp, h1, h11, h2 => by
    have hsz := T.2.2.1
    have eC : lp_X1_firstError_8 rq tq sg zc (d + 1) i 1 q1 = lp_X1_firstError_8 rq tq sg zc d (i + 1) (sX1_readsCommand q1 tq sg).1 (sX1_readsCommand q1 tq sg).2 := if_neg (by decide)
    have eR : lp_X8_readText_31 qz tx ft0 jb0 zr (d + 1) z1 ft1 jb1 p n = (if (z1 2) ≤ (nI p) then ((-1), z1, ft1, jb1) else ((fun (z_2 : Int32 × (Nat → Int32) × (Nat → Int32) × (Nat → Int32)) => (if z_2.1 = 0 then ((z_2.2.1 11), z_2.2.1, z_2.2.2.1, z_2.2.2.2) else (lp_X8_readText_31 qz tx ft0 jb0 zr d z_2.2.1 z_2.2.2.1 z_2.2.2.2 ((z_2.2.1 11).toNatClampNeg) ((z_2.2.2.1 0).toNatClampNeg)))) (sX8_readCommand z1 tx ft1 jb1 p n))) := rfl
    rw [eC, eR, h2]
    by_cases hps : p < sz
    · have hle : ¬ nI sz ≤ nI p := Int32.not_le.mpr ((nI_ltI (by omega) (by omega)).mpr hps)
      rw [if_neg hle]
      obtain ⟨k1, k2⟩ := cmd_step (ft := ft1) (jb := jb1) (n := n) T hps h1 h2
      generalize sX8_readCommand z1 tx ft1 jb1 p n = z2 at k1 k2 ⊢
      generalize sX1_readsCommand q1 tq sg = y2 at k2 ⊢
      dsimp only
      rcases k2 with ⟨e, e1, e2, e3, e4, e5, e6⟩ | ⟨e, e1, e2, e3, e4, e5, e6, -⟩
      · rw [e3, fe_stop, if_neg (show ¬ y2.2 2 = 0 by rw [e4.2]; decide), if_pos e5]
        exact ⟨e4.1.trans e6.symm, k1⟩
      · rw [e3, if_neg (show ¬ z2.1 = 0 by rw [e5]; decide), show (z2.2.1 11).toNatClampNeg = e by rw [e6]; exact tn_p (by omega)]
        obtain ⟨i1, i2⟩ := err_loop T (rq := rq) (qz := qz) (zc := zc) (zr := zr) d (i + 1) e (z2.2.2.1 0).toNatClampNeg y2.2 z2.2.1 z2.2.2.1 z2.2.2.2 (by omega) e2 e4 e6 ((k1 2 (by decide) (by decide) (by decide) (by decide)).trans h2)
        exact ⟨i1, fun k a1 a2 a3 a4 => (i2 k a1 a2 a3 a4).trans (k1 k a1 a2 a3 a4)⟩
    · have hle : nI sz ≤ nI p := (nI_leI (by omega) (by omega)).mpr (by omega)
      have er : sX1_readsCommand q1 tq sg = (0, q1) := by
        unfold sX1_readsCommand
        rw [if_pos h1.2, h1.1, sign_out T (by omega) (by omega), if_pos rfl]
      rw [if_pos hle, er, fe_stop, if_pos h1.2]
      exact ⟨rfl, fun _ _ _ _ _ => rfl⟩
theorem start_ok {rq : Nat → Int32} (h : sX6_signAt tq sg 0 = 77) : RDR (sX1_start rq tq sg) 1 0 := by
  have e : sX1_start rq tq sg = upd (upd (upd rq 1 0) 2 0) 1 (upd (upd rq 1 0) 2 0 1 + 1) := by
    unfold sX1_start
    rw [if_pos h]
    unfold sX1_start_z_2 sX1_moveIf
    rw [if_neg (by decide), if_pos pk_us]
  rw [e]
  refine ⟨?_, ?_⟩
  · rw [pk_us, pk_un (by decide), pk_us]; rfl
  · rw [pk_un (by decide), pk_us]
theorem start_no {rq : Nat → Int32} (h : ¬ sX6_signAt tq sg 0 = 77) : RDR (sX1_start rq tq sg) 0 1 := by
  have e : sX1_start rq tq sg = upd (upd (upd rq 1 0) 2 0) 2 1 := by
    unfold sX1_start
    rw [if_neg h]
    unfold sX1_start_z_1 sX1_moveIf
    rw [if_pos rfl]
  rw [e]
  refine ⟨?_, pk_us⟩
  rw [pk_un (by decide), pk_un (by decide), pk_us]; rfl
theorem first_sign (T : TXT tq sg q2 tx sz) {z : Nat → Int32} (hz : z 2 = nI sz) : sX6_signAt tq sg 0 = sX8_at z tx 0 := by
  have hsz := T.2.2.1
  by_cases h : 0 < sz
  · exact (sign_in T h).trans (at_in hz hsz h).symm
  · exact (sign_out T (p := 0) (by omega) (by decide)).trans (at_out hz hsz (p := 0) (by omega) (by decide)).symm
/-- both readers find the same first error -/
theorem first_eq (T : TXT tq sg q2 tx sz) {rq z : Nat → Int32} (hz : z 2 = nI sz) : (sX1_firstError rq tq sg).1 = (sX8_readText z tx ft jb).1 ∧ KP z (sX8_readText z tx ft jb).2.1 := by
  have hsz := T.2.2.1
  have z2 : upd (upd z 11 0) 12 0 2 = nI sz := by rw [pk_un (by decide), pk_un (by decide)]; exact hz
  have hs := first_sign T z2
  have kz : ∀ v : Int32, KP z (upd (upd z 11 v) 12 0) := fun v k a1 a2 a3 a4 => by rw [pk_un a3, pk_un a2]
  have eC : sX1_firstError rq tq sg = lp_X1_firstError_8 rq tq sg (sX1_start rq tq sg) (119 + 1) 0 1 (sX1_start rq tq sg) := rfl
  unfold sX8_readText
  generalize sX8_clear ft = F
  have eR : sX8_readText_z_1 z tx ft jb F = (if (sX8_at (upd (upd z 11 0) 12 0) tx 0) = 77 then (lp_X8_readText_31 z tx ft jb F (119 + 1) (upd (upd z 11 1) 12 0) F jb 1 0) else (0, (upd (upd z 11 0) 12 0), F, jb)) := rfl
  rw [eC, eR]
  by_cases h : sX6_signAt tq sg 0 = 77
  · rw [if_pos (show sX8_at (upd (upd z 11 0) 12 0) tx 0 = 77 by rw [← hs]; exact h)]
    have hp1 : 1 ≤ sz := Classical.byContradiction (fun hq => by
      have := sign_out T (p := 0) (by omega) (by decide)
      have e : sX6_signAt tq sg 0 = -1 := this
      rw [e] at h
      exact absurd h (by decide))
    have st := start_ok (rq := rq) h
    generalize sX1_start rq tq sg = S at st ⊢
    obtain ⟨i1, i2⟩ := err_loop T (ft0 := ft) (jb0 := jb) (rq := rq) (qz := z) (zc := S) (zr := F) (119 + 1) 0 1 0 S (upd (upd z 11 1) 12 0) F jb (by omega) hp1 st (by rw [pk_un (by decide), pk_us]; rfl) (by rw [pk_un (by decide), pk_un (by decide)]; exact hz)
    exact ⟨i1, fun k a1 a2 a3 a4 => (i2 k a1 a2 a3 a4).trans (kz 1 k a1 a2 a3 a4)⟩
  · rw [if_neg (show ¬ sX8_at (upd (upd z 11 0) 12 0) tx 0 = 77 by rw [← hs]; exact h)]
    have st := start_no (rq := rq) h
    generalize sX1_start rq tq sg = S at st ⊢
    have er : sX1_readsCommand S tq sg = (0, S) := by
      unfold sX1_readsCommand
      rw [if_neg (show ¬ S 2 = 0 by rw [st.2]; decide)]
    have e1 : lp_X1_firstError_8 rq tq sg S (119 + 1) 0 1 S = lp_X1_firstError_8 rq tq sg S 119 (0 + 1) (sX1_readsCommand S tq sg).1 (sX1_readsCommand S tq sg).2 := if_neg (by decide)
    rw [e1, er, fe_stop, if_neg (show ¬ S 2 = 0 by rw [st.2]; decide)]
    exact ⟨st.1, kz 0⟩
theorem op_error (T : TXT tq sg (q 2) tx sz) (rq : Nat → Int32) : (sX7_errorPosition rq tq sg).1 = (sX8_errorPosition q tx f ft dy kp ik jb).1 ∧ (sX8_errorPosition q tx f ft dy kp ik jb).2.1 0 = 0 ∧ ∀ k, k ≠ 0 → k ≠ 10 → k ≠ 11 → k ≠ 12 → k ≠ 13 → (sX8_errorPosition q tx f ft dy kp ik jb).2.1 k = q k := by
  obtain ⟨i1, i2⟩ := first_eq (ft := ft) (jb := jb) (rq := rq) (z := upd q 0 0) T (show upd q 0 0 2 = nI sz by rw [pk_un (by decide)]; exact T.2.1)
  refine ⟨i1, (i2 0 (by decide) (by decide) (by decide) (by decide)).trans pk_us, fun k h0 h10 h11 h12 h13 => (i2 k h10 h11 h12 h13).trans (pk_un h0)⟩
theorem load_loop (T : TXT tq sg q2 tx sz) {rq qz mq s0 s1 g2 u2 g u : Nat → Int32} {rv2 rv : Nat → Nat → Int32} {zc zr : Nat → Int32} {y1 : Int32 × (Nat → Int32)} {y2 : (Nat → Int32) × (Nat → Int32) × (Nat → Nat → Int32)} {y3 y4 y5 y6 : Nat → Int32} : ∀ (d i p n Bc : Nat) (lo : Int32) (q1 z1 ft1 jb1 g1 u1 : Nat → Int32) (rv1 : Nat → Nat → Int32), sz - p < d → p ≤ sz → RDR q1 p 0 → z1 11 = nI p → z1 2 = nI sz → z1 12 = lo → Bc + 60 * (sz - p) ≤ 98000 → SM ft1 g1 u1 rv1 → OKs Bc n ft1 → (lp_X8_readText_31 qz tx ft0 jb0 zr d z1 ft1 jb1 p n).1 = -1 →
    (lp_X7_load_64 rq tq sg mq s0 s1 g2 u2 rv2 g u rv y1 y2 y3 y4 y5 y6 d i lo q1 g1 u1 rv1).1 = 0 ∧ (lp_X7_load_64 rq tq sg mq s0 s1 g2 u2 rv2 g u rv y1 y2 y3 y4 y5 y6 d i lo q1 g1 u1 rv1).2.1 = (lp_X8_readText_31 qz tx ft0 jb0 zr d z1 ft1 jb1 p n).2.1 12 ∧
    (lp_X7_load_64 rq tq sg mq s0 s1 g2 u2 rv2 g u rv y1 y2 y3 y4 y5 y6 d i lo q1 g1 u1 rv1).2.2.2.1 = y3 ∧ (lp_X7_load_64 rq tq sg mq s0 s1 g2 u2 rv2 g u rv y1 y2 y3 y4 y5 y6 d i lo q1 g1 u1 rv1).2.2.2.2.1 = y4 ∧ (lp_X7_load_64 rq tq sg mq s0 s1 g2 u2 rv2 g u rv y1 y2 y3 y4 y5 y6 d i lo q1 g1 u1 rv1).2.2.2.2.2.1 = y5 ∧
    ∃ n', SM (lp_X8_readText_31 qz tx ft0 jb0 zr d z1 ft1 jb1 p n).2.2.1 (lp_X7_load_64 rq tq sg mq s0 s1 g2 u2 rv2 g u rv y1 y2 y3 y4 y5 y6 d i lo q1 g1 u1 rv1).2.2.2.2.2.2.1 (lp_X7_load_64 rq tq sg mq s0 s1 g2 u2 rv2 g u rv y1 y2 y3 y4 y5 y6 d i lo q1 g1 u1 rv1).2.2.2.2.2.2.2.1 (lp_X7_load_64 rq tq sg mq s0 s1 g2 u2 rv2 g u rv y1 y2 y3 y4 y5 y6 d i lo q1 g1 u1 rv1).2.2.2.2.2.2.2.2 ∧ OKs (Bc + 60 * (sz - p)) n' (lp_X8_readText_31 qz tx ft0 jb0 zr d z1 ft1 jb1 p n).2.2.1
  | 0, i, p, n, Bc, lo, q1, z1, ft1, jb1, g1, u1, rv1, hd, hp, h1, h11, h2, h12, hB, sr, ok, hr => absurd hd (Nat.not_lt_zero _)
  | d + 1, i, p, n, Bc, lo, q1, z1, ft1, jb1, g1, u1, rv1, hd, hp, h1, h11, h2, h12, hB, sr, ok, hr => by
    have hsz := T.2.2.1
    have eC : lp_X7_load_64 rq tq sg mq s0 s1 g2 u2 rv2 g u rv y1 y2 y3 y4 y5 y6 (d + 1) i lo q1 g1 u1 rv1 = ((fun (z_7 : Int32 × (Nat → Int32)) => (if z_7.1 = 0 then (0, lo, z_7.2, y3, y4, y5, g1, u1, rv1) else ((fun (z_8 : Int32 × (Nat → Int32) × (Nat → Int32) × (Nat → Nat → Int32)) => (if z_8.1 = 0 then (lp_X7_load_64 rq tq sg mq s0 s1 g2 u2 rv2 g u rv y1 y2 y3 y4 y5 y6 d (i + 1) (lo + 1) z_7.2 z_8.2.1 z_8.2.2.1 z_8.2.2.2) else (lp_X7_load_64 rq tq sg mq s0 s1 g2 u2 rv2 g u rv y1 y2 y3 y4 y5 y6 d (i + 1) lo z_7.2 z_8.2.1 z_8.2.2.1 z_8.2.2.2))) (sX7_doCommand z_7.2 g1 u1 rv1)))) (sX1_readsCommand q1 tq sg)) := rfl
    have eR : lp_X8_readText_31 qz tx ft0 jb0 zr (d + 1) z1 ft1 jb1 p n = (if (z1 2) ≤ (nI p) then ((-1), z1, ft1, jb1) else ((fun (z_2 : Int32 × (Nat → Int32) × (Nat → Int32) × (Nat → Int32)) => (if z_2.1 = 0 then ((z_2.2.1 11), z_2.2.1, z_2.2.2.1, z_2.2.2.2) else (lp_X8_readText_31 qz tx ft0 jb0 zr d z_2.2.1 z_2.2.2.1 z_2.2.2.2 ((z_2.2.1 11).toNatClampNeg) ((z_2.2.2.1 0).toNatClampNeg)))) (sX8_readCommand z1 tx ft1 jb1 p n))) := rfl
    rw [eR, h2] at hr
    rw [eC, eR, h2]
    by_cases hps : p < sz
    · have hle : ¬ nI sz ≤ nI p := Int32.not_le.mpr ((nI_ltI (by omega) (by omega)).mpr hps)
      rw [if_neg hle] at hr ⊢
      obtain ⟨k1, k2⟩ := cmd_step (ft := ft1) (jb := jb1) (n := n) T hps h1 h2
      generalize sX8_readCommand z1 tx ft1 jb1 p n = z2 at k1 k2 hr ⊢
      generalize sX1_readsCommand q1 tq sg = c2 at k2 ⊢
      dsimp only at hr ⊢
      rcases k2 with ⟨e, e1, e2, e3, e4, e5, e6⟩ | ⟨e, e1, e2, e3, e4, e5, e6, hD⟩
      · rw [if_pos e5] at hr
        have hr' : z2.2.1 11 = -1 := hr
        rw [e6] at hr'
        exact absurd hr' (nI_nm1 (by omega))
      · have hne : ¬ z2.1 = 0 := by rw [e5]; decide
        have ht : (z2.2.1 11).toNatClampNeg = e := by rw [e6]; exact tn_p (by omega)
        rw [if_neg hne, ht] at hr
        rw [if_neg hne, ht, if_neg (show ¬ c2.1 = 0 by rw [e3]; decide)]
        obtain ⟨⟨n', t1, t2⟩, d12⟩ := hD g1 u1 rv1 Bc (by omega) sr ok
        have hn' : (z2.2.2.1 0).toNatClampNeg = n' := by
          rw [t2.2.1]
          have := t2.1
          exact tn_p (by omega)
        rw [hn'] at hr ⊢
        have z22 : z2.2.1 2 = nI sz := (k1 2 (by decide) (by decide) (by decide) (by decide)).trans h2
        generalize sX7_doCommand c2.2 g1 u1 rv1 = y8 at t1 d12 ⊢
        have fin : ∀ lo', z2.2.1 12 = lo' → _ := fun lo' hl => load_loop T (rq := rq) (qz := qz) (mq := mq) (s0 := s0) (s1 := s1) (g2 := g2) (u2 := u2) (g := g) (u := u) (rv2 := rv2) (rv := rv) (zc := zc) (zr := zr) (y1 := y1) (y2 := y2) (y3 := y3) (y4 := y4) (y5 := y5) (y6 := y6) d (i + 1) e n' (Bc + 60) lo' c2.2 z2.2.1 z2.2.2.1 z2.2.2.2 y8.2.1 y8.2.2.1 y8.2.2.2 (by omega) e2 e4 e6 z22 hl (by omega) t1 t2 hr
        by_cases h8 : y8.1 = 0
        · rw [if_pos h8] at d12 ⊢
          obtain ⟨f1, f2, f3, f4, f5, n2, f6, f7⟩ := fin (lo + 1) (by rw [d12, h12])
          exact ⟨f1, f2, f3, f4, f5, n2, f6, f7.mono (by omega)⟩
        · rw [if_neg h8] at d12 ⊢
          obtain ⟨f1, f2, f3, f4, f5, n2, f6, f7⟩ := fin lo (by rw [d12, h12]; exact Int32.add_zero _)
          exact ⟨f1, f2, f3, f4, f5, n2, f6, f7.mono (by omega)⟩
    · have hle : nI sz ≤ nI p := (nI_leI (by omega) (by omega)).mpr (by omega)
      have er : sX1_readsCommand q1 tq sg = (0, q1) := by
        unfold sX1_readsCommand
        rw [if_pos h1.2, h1.1, sign_out T (by omega) (by omega), if_pos rfl]
      rw [if_pos hle, er]
      dsimp only
      rw [if_pos (show (0 : Int32) = 0 from rfl)]
      exact ⟨rfl, h12.symm, rfl, rfl, rfl, n, sr, ok.mono (Nat.le_add_right _ _)⟩
end P24
