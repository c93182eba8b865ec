/-! PURE: what is done in a turn -/
def ACT (σ : SG) (N : Nat) : Int32 × SG :=
  if N % 16 = 0 then (if mF σ.1 < 5 then (nI (mF σ.1), sPush σ (ADDF σ.1 (nI (1 + N / 16 % 30)) (nI (N / 480 % 300) - 250) (nI (N / 480 % 300) - 250 + 1 + nI (N / 144000 % 50)))) else (-1, σ))
  else if N % 16 < 4 then (DOORN σ.1 (nI (N / 16 % mF σ.1)).toNatClampNeg (if N / 96 % 3 = 0 then 0 else 1), sPush σ (sX8_lay σ.1 (nI (N / 16 % mF σ.1)).toNatClampNeg 4 (if N / 96 % 3 = 0 then 0 else 1)))
  else if N % 16 < 6 then (σ.1 (16 + 8 * (nI (N / 16 % mF σ.1)).toNatClampNeg + 3), sPush σ (sX8_lay σ.1 (nI (N / 16 % mF σ.1)).toNatClampNeg 3 (σ.1 (16 + 8 * (N / 16 % mF σ.1) + 1) + nI (N / 96 % 100) - 30)))
  else if N % 16 < 8 then (if sX8_isSetting (nI (N / 16 % 6)) (nI (N / 96 % (if N / 16 % 6 = 0 then 1200 else 40))) = 0 then (-9999002, σ) else (σ.1 (10 + (nI (N / 16 % 6)).toNatClampNeg), sPush σ (upd σ.1 (10 + (nI (N / 16 % 6)).toNatClampNeg) (nI (N / 96 % (if N / 16 % 6 = 0 then 1200 else 40))))))
  else if N % 16 = 8 then (if mF σ.1 < 2 then (-1, σ) else if σ.2.1 = 0 then (-9999003, σ) else (nI (σ.2.1 - 1), sUndo σ))
  else if N % 16 = 9 then (if N / 16 % 2 = 0 then (σ.1 1, (σ.1, σ.2.1, σ.2.2.1, some σ.1, σ.2.2.2.2)) else (σ.1 1, (σ.1, σ.2.1, σ.2.2.1, σ.2.2.2.1, some σ.1)))
  else if N % 16 = 10 then (if N / 16 % 2 = 0 then (match σ.2.2.2.1 with
      | none => (-9999003, σ)
      | some fs => (fs 1, (fs, 0, σ.2.2.1, σ.2.2.2.1, σ.2.2.2.2))) else (match σ.2.2.2.2 with
      | none => (-9999003, σ)
      | some fs => (fs 1, (fs, 0, σ.2.2.1, σ.2.2.2.1, σ.2.2.2.2))))
  else (RUNF σ.1 (nI (1 + N / 16 % 30)).toNatClampNeg 5 - σ.1 5, sPush σ (RUNF σ.1 (nI (1 + N / 16 % 30)).toNatClampNeg))
section P86
variable {σ : SG} {N : Nat}
theorem act_0 (h : N % 16 = 0) (hm : mF σ.1 < 5) : ACT σ N = (nI (mF σ.1), sPush σ (ADDF σ.1 (nI (1 + N / 16 % 30)) (nI (N / 480 % 300) - 250) (nI (N / 480 % 300) - 250 + 1 + nI (N / 144000 % 50)))) := by
  unfold ACT; rw [if_pos h, if_pos hm]
theorem act_0n (h : N % 16 = 0) (hm : ¬ mF σ.1 < 5) : ACT σ N = (-1, σ) := by
  unfold ACT; rw [if_pos h, if_neg hm]
theorem act_d0 (h : 1 ≤ N % 16 ∧ N % 16 < 4) (hv : N / 96 % 3 = 0) : ACT σ N = (DOORN σ.1 (nI (N / 16 % mF σ.1)).toNatClampNeg 0, sPush σ (sX8_lay σ.1 (nI (N / 16 % mF σ.1)).toNatClampNeg 4 0)) := by
  unfold ACT; rw [if_neg (by omega), if_pos h.2, if_pos hv]
theorem act_d1 (h : 1 ≤ N % 16 ∧ N % 16 < 4) (hv : ¬ N / 96 % 3 = 0) : ACT σ N = (DOORN σ.1 (nI (N / 16 % mF σ.1)).toNatClampNeg 1, sPush σ (sX8_lay σ.1 (nI (N / 16 % mF σ.1)).toNatClampNeg 4 1)) := by
  unfold ACT; rw [if_neg (by omega), if_pos h.2, if_neg hv]
theorem act_g (h : 4 ≤ N % 16 ∧ N % 16 < 6) : ACT σ N = (σ.1 (16 + 8 * (nI (N / 16 % mF σ.1)).toNatClampNeg + 3), sPush σ (sX8_lay σ.1 (nI (N / 16 % mF σ.1)).toNatClampNeg 3 (σ.1 (16 + 8 * (N / 16 % mF σ.1) + 1) + nI (N / 96 % 100) - 30))) := by
  unfold ACT; rw [if_neg (by omega), if_neg (by omega), if_pos h.2]
theorem act_s (h : 6 ≤ N % 16 ∧ N % 16 < 8) (W : Nat) (hW : W = N / 96 % (if N / 16 % 6 = 0 then 1200 else 40)) (hs : ¬ sX8_isSetting (nI (N / 16 % 6)) (nI W) = 0) : ACT σ N = (σ.1 (10 + (nI (N / 16 % 6)).toNatClampNeg), sPush σ (upd σ.1 (10 + (nI (N / 16 % 6)).toNatClampNeg) (nI W))) := by
  unfold ACT; rw [if_neg (by omega), if_neg (by omega), if_neg (by omega), if_pos h.2, ← hW, if_neg hs]
theorem act_sn (h : 6 ≤ N % 16 ∧ N % 16 < 8) (W : Nat) (hW : W = N / 96 % (if N / 16 % 6 = 0 then 1200 else 40)) (hs : sX8_isSetting (nI (N / 16 % 6)) (nI W) = 0) : ACT σ N = (-9999002, σ) := by
  unfold ACT; rw [if_neg (by omega), if_neg (by omega), if_neg (by omega), if_pos h.2, ← hW, if_pos hs]
theorem act_un (h : N % 16 = 8) (hm : mF σ.1 < 2) : ACT σ N = (-1, σ) := by
  unfold ACT; rw [if_neg (by omega), if_neg (by omega), if_neg (by omega), if_neg (by omega), if_pos h, if_pos hm]
theorem act_u0 (h : N % 16 = 8) (hm : ¬ mF σ.1 < 2) (hc : σ.2.1 = 0) : ACT σ N = (-9999003, σ) := by
  unfold ACT; rw [if_neg (by omega), if_neg (by omega), if_neg (by omega), if_neg (by omega), if_pos h, if_neg hm, if_pos hc]
theorem act_u (h : N % 16 = 8) (hm : ¬ mF σ.1 < 2) (hc : ¬ σ.2.1 = 0) : ACT σ N = (nI (σ.2.1 - 1), sUndo σ) := by
  unfold ACT; rw [if_neg (by omega), if_neg (by omega), if_neg (by omega), if_neg (by omega), if_pos h, if_neg hm, if_neg hc]
theorem act_k0 (h : N % 16 = 9) (hs : N / 16 % 2 = 0) : ACT σ N = (σ.1 1, (σ.1, σ.2.1, σ.2.2.1, some σ.1, σ.2.2.2.2)) := by
  unfold ACT; rw [if_neg (by omega), if_neg (by omega), if_neg (by omega), if_neg (by omega), if_neg (by omega), if_pos h, if_pos hs]
theorem act_k1 (h : N % 16 = 9) (hs : ¬ N / 16 % 2 = 0) : ACT σ N = (σ.1 1, (σ.1, σ.2.1, σ.2.2.1, σ.2.2.2.1, some σ.1)) := by
  unfold ACT; rw [if_neg (by omega), if_neg (by omega), if_neg (by omega), if_neg (by omega), if_neg (by omega), if_pos h, if_neg hs]
theorem act_b0n (h : N % 16 = 10) (hs : N / 16 % 2 = 0) (hk : σ.2.2.2.1 = none) : ACT σ N = (-9999003, σ) := by
  unfold ACT; rw [if_neg (by omega), if_neg (by omega), if_neg (by omega), if_neg (by omega), if_neg (by omega), if_neg (by omega), if_pos h, if_pos hs, hk]
theorem act_b0 (h : N % 16 = 10) (hs : N / 16 % 2 = 0) {fs : RW} (hk : σ.2.2.2.1 = some fs) : ACT σ N = (fs 1, (fs, 0, σ.2.2.1, σ.2.2.2.1, σ.2.2.2.2)) := by
  unfold ACT; rw [if_neg (by omega), if_neg (by omega), if_neg (by omega), if_neg (by omega), if_neg (by omega), if_neg (by omega), if_pos h, if_pos hs]
  generalize hz : σ.2.2.2.1 = z at hk ⊢
  subst hk; rfl
theorem act_b1n (h : N % 16 = 10) (hs : ¬ N / 16 % 2 = 0) (hk : σ.2.2.2.2 = none) : ACT σ N = (-9999003, σ) := by
  unfold ACT; rw [if_neg (by omega), if_neg (by omega), if_neg (by omega), if_neg (by omega), if_neg (by omega), if_neg (by omega), if_pos h, if_neg hs, hk]
theorem act_b1 (h : N % 16 = 10) (hs : ¬ N / 16 % 2 = 0) {fs : RW} (hk : σ.2.2.2.2 = some fs) : ACT σ N = (fs 1, (fs, 0, σ.2.2.1, σ.2.2.2.1, σ.2.2.2.2)) := by
  unfold ACT; rw [if_neg (by omega), if_neg (by omega), if_neg (by omega), if_neg (by omega), if_neg (by omega), if_neg (by omega), if_pos h, if_neg hs]
  generalize hz : σ.2.2.2.2 = z at hk ⊢
  subst hk; rfl
theorem act_r (h : 11 ≤ N % 16) : ACT σ N = (RUNF σ.1 (nI (1 + N / 16 % 30)).toNatClampNeg 5 - σ.1 5, sPush σ (RUNF σ.1 (nI (1 + N / 16 % 30)).toNatClampNeg)) := by
  unfold ACT; rw [if_neg (by omega), if_neg (by omega), if_neg (by omega), if_neg (by omega), if_neg (by omega), if_neg (by omega), if_neg (by omega)]
theorem ad_wish (N : Nat) : -300 ≤ (nI (N / 480 % 300) - 250).toInt ∧ (nI (N / 480 % 300) - 250).toInt ≤ 200 ∧ (nI (N / 480 % 300) - 250).toInt + 1 ≤ (nI (N / 480 % 300) - 250 + 1 + nI (N / 144000 % 50)).toInt ∧ (nI (N / 480 % 300) - 250 + 1 + nI (N / 144000 % 50)).toInt ≤ 200 := by
  have e := t_nc (N / 480 % 300) 250 (by decide) (by decide) (by omega)
  have e250 : (250 : Int32).toInt = 250 := rfl
  have e1 : (1 : Int32).toInt = 1 := rfl
  have e2 := t_n (k := N / 144000 % 50) (by omega)
  have e3 : (nI (N / 480 % 300) - 250 + 1).toInt = (nI (N / 480 % 300) - 250).toInt + 1 := by rw [ia (by omega) (by omega), e1]
  have e4 : (nI (N / 480 % 300) - 250 + 1 + nI (N / 144000 % 50)).toInt = (nI (N / 480 % 300) - 250).toInt + 1 + ((N / 144000 % 50 : Nat) : Int) := by rw [ia (by omega) (by omega), e3, e2]
  omega
theorem ad_load (N : Nat) : 1 ≤ (nI (1 + N / 16 % 30)).toInt ∧ (nI (1 + N / 16 % 30)).toInt ≤ 50 := by
  have e := t_n (k := 1 + N / 16 % 30) (by omega)
  omega
theorem ad_goods {B m : Nat} {f : RW} (ok : OKs B m f) (okx : OKX m f) {i : Nat} (hi : i < m) (N : Nat) : -400 ≤ (f (16 + 8 * i + 1) + nI (N / 96 % 100) - 30).toInt ∧ (f (16 + 8 * i + 1) + nI (N / 96 % 100) - 30).toInt ≤ 400 := by
  have hm := ok.1
  obtain ⟨⟨o1, o2⟩, -⟩ := okx i hi
  have o3 := ((ok.2.2.2.2.2.2.2.2.2.2 i (by omega)).2.2.2.2.2 hi).2
  have e := t_n (k := N / 96 % 100) (by omega)
  have e30 : (30 : Int32).toInt = 30 := rfl
  have e1 : (f (16 + 8 * i + 1) + nI (N / 96 % 100)).toInt = (f (16 + 8 * i + 1)).toInt + ((N / 96 % 100 : Nat) : Int) := by rw [ia (by omega) (by omega), e]
  have e2 : (f (16 + 8 * i + 1) + nI (N / 96 % 100) - 30).toInt = (f (16 + 8 * i + 1)).toInt + ((N / 96 % 100 : Nat) : Int) - 30 := by rw [is_ (by omega) (by omega), e1, e30]
  omega
end P86
