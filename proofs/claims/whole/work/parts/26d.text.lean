theorem rc_m {k : Nat} : nI (k + 1) - 1 = nI k := pk_sub (show 1 ≤ k + 1 from Nat.succ_le_succ (Nat.zero_le k))
theorem tz1 (q tx : Nat → Int32) (sp : Nat) (z : Int32 × (Nat → Int32)) : (sX8_temperature_z_1 q tx sp z).2 = z.2 := by
  unfold sX8_temperature_z_1
  split <;> rfl
theorem tz2 (q tx : Nat → Int32) (sp : Nat) (z : Int32 × (Nat → Int32)) : (sX8_temperature_z_2 q tx sp z).2 = z.2 := by
  unfold sX8_temperature_z_2
  split <;> rfl
theorem tz3 (q tx : Nat → Int32) (sp : Nat) (z : Int32 × (Nat → Int32)) : (sX8_temperature_z_3 q tx sp z).2 = z.2 := by
  unfold sX8_temperature_z_3
  split <;> rfl
theorem tz4 (q tx : Nat → Int32) (sp : Nat) (z : Int32 × (Nat → Int32)) : (sX8_temperature_z_4 q tx sp z).2 = z.2 := by
  unfold sX8_temperature_z_4
  split <;> rfl
theorem tz5 (q tx : Nat → Int32) (sp : Nat) (z : Int32 × (Nat → Int32)) : (sX8_temperature_z_5 q tx sp z).2 = z.2 := by
  unfold sX8_temperature_z_5
  split <;> rfl
theorem tz6 (q tx : Nat → Int32) (sp : Nat) (z : Int32 × (Nat → Int32)) : (sX8_temperature_z_6 q tx sp z).2 = z.2 := by
  unfold sX8_temperature_z_6
  split <;> rfl
theorem tz7 (q tx : Nat → Int32) (sp : Nat) (z : Int32 × (Nat → Int32)) : (sX8_temperature_z_7 q tx sp z).2 = z.2 := by
  unfold sX8_temperature_z_7
  split <;> rfl
theorem tz8 (q tx : Nat → Int32) (sp : Nat) (z : Int32 × (Nat → Int32)) : (sX8_temperature_z_8 q tx sp z).2 = z.2 := by
  unfold sX8_temperature_z_8
  split <;> rfl
theorem te_p {sz : Nat} (q tx : Nat → Int32) (sp : Nat) (hs : q 2 = nI sz) (hz : sz ≤ 120) (hp : q 11 = nI sp) (hps : sp ≤ sz) (hb : zb (q 13)) : FQ q sz sp (sX8_temperature q tx sp).2 := by
  have wr : ∀ hi : Int32, hi.toInt ≤ 9999 → FQ q sz sp (sX8_figures (upd (upd q 11 (nI (sp + 0))) 13 0) tx (sp + 0) 3 0 hi).2 := fun hi hhi =>
    fq_up (fig_p _ tx (sp + 0) 3 0 hi ((pk_un (by decide)).trans ((pk_un (by decide)).trans hs)) hz ((pk_un (by decide)).trans pk_us) hps (by decide) (by decide) (Or.inl pk_us) hhi).1 uu_k (Nat.le_refl _)
  have rt : ∀ hi : Int32, hi.toInt ≤ 9999 → (sX8_at q tx sp = 43 ∨ sX8_at q tx sp = 45) → FQ q sz sp (sX8_figures (upd (upd q 11 (nI (sp + 1))) 13 1) tx (sp + 1) 3 0 hi).2 := fun hi hhi ho =>
    have hlt : sp < sz := at_lt (tx := tx) (p := sp) hs hz (by omega) (by rcases ho with h | h <;> rw [h] <;> decide)
    fq_up (fig_p _ tx (sp + 1) 3 0 hi ((pk_un (by decide)).trans ((pk_un (by decide)).trans hs)) hz ((pk_un (by decide)).trans pk_us) hlt (by decide) (by decide) (Or.inr pk_us) hhi).1 uu_k (Nat.le_succ _)
  unfold sX8_temperature
  by_cases c1 : q 13 = 0
  · rw [if_pos c1]
    by_cases c2 : sX8_at q tx sp = 45
    · rw [if_pos c2, tz2]; exact wr 300 (by decide)
    · rw [if_neg c2, tz1]; exact wr 200 (by decide)
  · rw [if_neg c1]
    by_cases c3 : sX8_at q tx sp = 43
    · rw [if_pos c3]
      by_cases c2 : sX8_at q tx sp = 45
      · rw [if_pos c2, tz4]; exact rt 300 (by decide) (Or.inl c3)
      · rw [if_neg c2, tz3]; exact rt 200 (by decide) (Or.inl c3)
    · rw [if_neg c3]
      by_cases c2 : sX8_at q tx sp = 45
      · rw [if_pos c2, if_pos c2, tz8]; exact rt 300 (by decide) (Or.inr c2)
      · rw [if_neg c2, if_neg c2, tz5]; exact wr 200 (by decide)
theorem fq_e {q : Nat → Int32} {sz sp : Nat} {z : Nat → Int32} (hz : sz ≤ 120) (h : FQ q sz sp z) : z 11 = nI (z 11).toNatClampNeg ∧ sp ≤ (z 11).toNatClampNeg ∧ (z 11).toNatClampNeg ≤ sz ∧ z 2 = nI sz ∧ zb (z 13) ∧ ∀ k, k ≠ 11 → k ≠ 13 → z k = q k := by
  obtain ⟨e, a1, a2, a3, a4, a5, a6⟩ := h
  have : (z 11).toNatClampNeg = e := by rw [a1, nI_clamp (by omega)]
  rw [this]
  exact ⟨a1, a2, a3, a4, a5, a6⟩
def sX8_readCommand_z_22 (q : Nat → Int32) (tx : Nat → Int32) (ft : Nat → Int32) (jb : Nat → Int32) (sp : Nat) (n : Nat) (z_21 : Int32 × (Nat → Int32)) (z_22 : Int32 × (Nat → Int32)) : Int32 × (Nat → Int32) × (Nat → Int32) × (Nat → Int32) :=
  (if z_22.1 = 0 then (0, z_22.2, ft, jb) else (1, z_22.2, ft, jb))
def sX8_readCommand_z_26 (q : Nat → Int32) (tx : Nat → Int32) (ft : Nat → Int32) (jb : Nat → Int32) (sp : Nat) (n : Nat) (z_21 : Int32 × (Nat → Int32)) (x_23 : Int32) (z_24 : Int32 × (Nat → Int32)) (x_25 : Int32) (z_26 : Int32 × (Nat → Int32)) : Int32 × (Nat → Int32) × (Nat → Int32) × (Nat → Int32) :=
  (if z_26.1 = 0 then (0, z_26.2, z_24.2, jb) else (1, z_26.2, z_24.2, jb))
def sX8_readCommand_j225 (q : Nat → Int32) (tx : Nat → Int32) (ft : Nat → Int32) (jb : Nat → Int32) (sp : Nat) (n : Nat) (z_21 : Int32 × (Nat → Int32)) (x_23 : Int32) (z_24 : Int32 × (Nat → Int32)) (x_25 : Int32) : Int32 × (Nat → Int32) × (Nat → Int32) × (Nat → Int32) :=
  (sX8_readCommand_z_26 q tx ft jb sp n z_21 x_23 z_24 x_25 (sX8_done z_21.2 x_25))
def sX8_readCommand_z_24 (q : Nat → Int32) (tx : Nat → Int32) (ft : Nat → Int32) (jb : Nat → Int32) (sp : Nat) (n : Nat) (z_21 : Int32 × (Nat → Int32)) (x_23 : Int32) (z_24 : Int32 × (Nat → Int32)) : Int32 × (Nat → Int32) × (Nat → Int32) × (Nat → Int32) :=
  (sX8_readCommand_j225 q tx ft jb sp n z_21 x_23 z_24 (if z_24.1 < 0 then 0 else 1))
def sX8_readCommand_j214 (q : Nat → Int32) (tx : Nat → Int32) (ft : Nat → Int32) (jb : Nat → Int32) (sp : Nat) (n : Nat) (z_21 : Int32 × (Nat → Int32)) (x_23 : Int32) : Int32 × (Nat → Int32) × (Nat → Int32) × (Nat → Int32) :=
  (sX8_readCommand_z_24 q tx ft jb sp n z_21 x_23 (sX8_doorOn ft n z_21.1.toNatClampNeg x_23))
def sX8_readCommand_z_21 (q : Nat → Int32) (tx : Nat → Int32) (ft : Nat → Int32) (jb : Nat → Int32) (sp : Nat) (n : Nat) (z_21 : Int32 × (Nat → Int32)) : Int32 × (Nat → Int32) × (Nat → Int32) × (Nat → Int32) :=
  (if (z_21.2 13) = 0 then (0, z_21.2, ft, jb) else (if (sX8_isRoom ft z_21.1) = 0 then (sX8_readCommand_z_22 q tx ft jb sp n z_21 (sX8_done z_21.2 0)) else (sX8_readCommand_j214 q tx ft jb sp n z_21 (if (tx sp) = 111 then 1 else 0))))
def sX8_readCommand_z_16 (q : Nat → Int32) (tx : Nat → Int32) (ft : Nat → Int32) (jb : Nat → Int32) (sp : Nat) (n : Nat) (z_13 : Int32 × (Nat → Int32)) (z_14 : Int32 × (Nat → Int32)) (z_15 : Int32 × (Nat → Int32)) (z_16 : Int32 × (Nat → Int32)) : Int32 × (Nat → Int32) × (Nat → Int32) × (Nat → Int32) :=
  (if z_16.1 = 0 then (0, z_16.2, ft, jb) else (1, z_16.2, ft, jb))
def sX8_readCommand_z_17 (q : Nat → Int32) (tx : Nat → Int32) (ft : Nat → Int32) (jb : Nat → Int32) (sp : Nat) (n : Nat) (z_13 : Int32 × (Nat → Int32)) (z_14 : Int32 × (Nat → Int32)) (z_15 : Int32 × (Nat → Int32)) (z_17 : Int32 × (Nat → Int32)) : Int32 × (Nat → Int32) × (Nat → Int32) × (Nat → Int32) :=
  (if z_17.1 = 0 then (0, z_17.2, ft, jb) else (1, z_17.2, ft, jb))
def sX8_readCommand_z_20 (q : Nat → Int32) (tx : Nat → Int32) (ft : Nat → Int32) (jb : Nat → Int32) (sp : Nat) (n : Nat) (z_13 : Int32 × (Nat → Int32)) (z_14 : Int32 × (Nat → Int32)) (z_15 : Int32 × (Nat → Int32)) (z_18 : Int32 × (Nat → Int32)) (x_19 : Int32) (z_20 : Int32 × (Nat → Int32)) : Int32 × (Nat → Int32) × (Nat → Int32) × (Nat → Int32) :=
  (if z_20.1 = 0 then (0, z_20.2, z_18.2, jb) else (1, z_20.2, z_18.2, jb))
def sX8_readCommand_j165 (q : Nat → Int32) (tx : Nat → Int32) (ft : Nat → Int32) (jb : Nat → Int32) (sp : Nat) (n : Nat) (z_13 : Int32 × (Nat → Int32)) (z_14 : Int32 × (Nat → Int32)) (z_15 : Int32 × (Nat → Int32)) (z_18 : Int32 × (Nat → Int32)) (x_19 : Int32) : Int32 × (Nat → Int32) × (Nat → Int32) × (Nat → Int32) :=
  (sX8_readCommand_z_20 q tx ft jb sp n z_13 z_14 z_15 z_18 x_19 (sX8_done z_15.2 x_19))
def sX8_readCommand_z_18 (q : Nat → Int32) (tx : Nat → Int32) (ft : Nat → Int32) (jb : Nat → Int32) (sp : Nat) (n : Nat) (z_13 : Int32 × (Nat → Int32)) (z_14 : Int32 × (Nat → Int32)) (z_15 : Int32 × (Nat → Int32)) (z_18 : Int32 × (Nat → Int32)) : Int32 × (Nat → Int32) × (Nat → Int32) × (Nat → Int32) :=
  (sX8_readCommand_j165 q tx ft jb sp n z_13 z_14 z_15 z_18 (if z_18.1 < 0 then 0 else 1))
def sX8_readCommand_z_15 (q : Nat → Int32) (tx : Nat → Int32) (ft : Nat → Int32) (jb : Nat → Int32) (sp : Nat) (n : Nat) (z_13 : Int32 × (Nat → Int32)) (z_14 : Int32 × (Nat → Int32)) (z_15 : Int32 × (Nat → Int32)) : Int32 × (Nat → Int32) × (Nat → Int32) × (Nat → Int32) :=
  (if (z_15.2 13) = 0 then (0, z_15.2, ft, jb) else (if (sX8_isNew z_13.1 z_14.1 z_15.1) = 0 then (sX8_readCommand_z_16 q tx ft jb sp n z_13 z_14 z_15 (sX8_done z_15.2 0)) else (if 6 ≤ (ft 0) then (sX8_readCommand_z_17 q tx ft jb sp n z_13 z_14 z_15 (sX8_done z_15.2 0)) else (sX8_readCommand_z_18 q tx ft jb sp n z_13 z_14 z_15 (sX8_addOn ft n z_13.1 z_14.1 z_15.1)))))
def sX8_readCommand_z_14 (q : Nat → Int32) (tx : Nat → Int32) (ft : Nat → Int32) (jb : Nat → Int32) (sp : Nat) (n : Nat) (z_13 : Int32 × (Nat → Int32)) (z_14 : Int32 × (Nat → Int32)) : Int32 × (Nat → Int32) × (Nat → Int32) × (Nat → Int32) :=
  (sX8_readCommand_z_15 q tx ft jb sp n z_13 z_14 (sX8_temperature z_14.2 tx ((z_14.2 11).toNatClampNeg)))
def sX8_readCommand_z_13 (q : Nat → Int32) (tx : Nat → Int32) (ft : Nat → Int32) (jb : Nat → Int32) (sp : Nat) (n : Nat) (z_13 : Int32 × (Nat → Int32)) : Int32 × (Nat → Int32) × (Nat → Int32) × (Nat → Int32) :=
  (sX8_readCommand_z_14 q tx ft jb sp n z_13 (sX8_temperature z_13.2 tx ((z_13.2 11).toNatClampNeg)))
def sX8_readCommand_z_8 (q : Nat → Int32) (tx : Nat → Int32) (ft : Nat → Int32) (jb : Nat → Int32) (sp : Nat) (n : Nat) (z_7 : Int32 × (Nat → Int32)) (z_8 : Int32 × (Nat → Int32)) : Int32 × (Nat → Int32) × (Nat → Int32) × (Nat → Int32) :=
  (if z_8.1 = 0 then (0, z_8.2, ft, jb) else (1, z_8.2, ft, jb))
def sX8_readCommand_z_12 (q : Nat → Int32) (tx : Nat → Int32) (ft : Nat → Int32) (jb : Nat → Int32) (sp : Nat) (n : Nat) (z_7 : Int32 × (Nat → Int32)) (x_9 : Int32) (z_10 : Int32 × (Nat → Int32)) (x_11 : Int32) (z_12 : Int32 × (Nat → Int32)) : Int32 × (Nat → Int32) × (Nat → Int32) × (Nat → Int32) :=
  (if z_12.1 = 0 then (0, z_12.2, z_10.2, jb) else (1, z_12.2, z_10.2, jb))
def sX8_readCommand_j225' (q : Nat → Int32) (tx : Nat → Int32) (ft : Nat → Int32) (jb : Nat → Int32) (sp : Nat) (n : Nat) (z_7 : Int32 × (Nat → Int32)) (x_9 : Int32) (z_10 : Int32 × (Nat → Int32)) (x_11 : Int32) : Int32 × (Nat → Int32) × (Nat → Int32) × (Nat → Int32) :=
  (sX8_readCommand_z_12 q tx ft jb sp n z_7 x_9 z_10 x_11 (sX8_done z_7.2 x_11))
def sX8_readCommand_z_10 (q : Nat → Int32) (tx : Nat → Int32) (ft : Nat → Int32) (jb : Nat → Int32) (sp : Nat) (n : Nat) (z_7 : Int32 × (Nat → Int32)) (x_9 : Int32) (z_10 : Int32 × (Nat → Int32)) : Int32 × (Nat → Int32) × (Nat → Int32) × (Nat → Int32) :=
  (sX8_readCommand_j225' q tx ft jb sp n z_7 x_9 z_10 (if z_10.1 < 0 then 0 else 1))
def sX8_readCommand_j214' (q : Nat → Int32) (tx : Nat → Int32) (ft : Nat → Int32) (jb : Nat → Int32) (sp : Nat) (n : Nat) (z_7 : Int32 × (Nat → Int32)) (x_9 : Int32) : Int32 × (Nat → Int32) × (Nat → Int32) × (Nat → Int32) :=
  (sX8_readCommand_z_10 q tx ft jb sp n z_7 x_9 (sX8_doorOn ft n z_7.1.toNatClampNeg x_9))
def sX8_readCommand_z_7 (q : Nat → Int32) (tx : Nat → Int32) (ft : Nat → Int32) (jb : Nat → Int32) (sp : Nat) (n : Nat) (z_7 : Int32 × (Nat → Int32)) : Int32 × (Nat → Int32) × (Nat → Int32) × (Nat → Int32) :=
  (if (z_7.2 13) = 0 then (0, z_7.2, ft, jb) else (if (sX8_isRoom ft z_7.1) = 0 then (sX8_readCommand_z_8 q tx ft jb sp n z_7 (sX8_done z_7.2 0)) else (sX8_readCommand_j214' q tx ft jb sp n z_7 (if (tx sp) = 111 then 1 else 0))))
def sX8_readCommand_z_6 (q : Nat → Int32) (tx : Nat → Int32) (ft : Nat → Int32) (jb : Nat → Int32) (sp : Nat) (n : Nat) (z_3 : Int32 × (Nat → Int32)) (z_4 : Int32 × (Nat → Int32) × (Nat → Int32) × (Nat → Int32)) (x_5 : Int32) (z_6 : Int32 × (Nat → Int32)) : Int32 × (Nat → Int32) × (Nat → Int32) × (Nat → Int32) :=
  (if z_6.1 = 0 then (0, z_6.2, z_4.2.2.2, z_4.2.2.1) else (1, z_6.2, z_4.2.2.2, z_4.2.2.1))
def sX8_readCommand_j268 (q : Nat → Int32) (tx : Nat → Int32) (ft : Nat → Int32) (jb : Nat → Int32) (sp : Nat) (n : Nat) (z_3 : Int32 × (Nat → Int32)) (z_4 : Int32 × (Nat → Int32) × (Nat → Int32) × (Nat → Int32)) (x_5 : Int32) : Int32 × (Nat → Int32) × (Nat → Int32) × (Nat → Int32) :=
  (sX8_readCommand_z_6 q tx ft jb sp n z_3 z_4 x_5 (sX8_done z_4.2.1 x_5))
def sX8_readCommand_z_4 (q : Nat → Int32) (tx : Nat → Int32) (ft : Nat → Int32) (jb : Nat → Int32) (sp : Nat) (n : Nat) (z_3 : Int32 × (Nat → Int32)) (z_4 : Int32 × (Nat → Int32) × (Nat → Int32) × (Nat → Int32)) : Int32 × (Nat → Int32) × (Nat → Int32) × (Nat → Int32) :=
  (sX8_readCommand_j268 q tx ft jb sp n z_3 z_4 (if z_4.1 < 0 then 0 else 1))
def sX8_readCommand_z_3 (q : Nat → Int32) (tx : Nat → Int32) (ft : Nat → Int32) (jb : Nat → Int32) (sp : Nat) (n : Nat) (z_3 : Int32 × (Nat → Int32)) : Int32 × (Nat → Int32) × (Nat → Int32) × (Nat → Int32) :=
  (if (z_3.2 13) = 0 then (0, z_3.2, ft, jb) else (sX8_readCommand_z_4 q tx ft jb sp n z_3 (sX8_runOn z_3.2 jb ft z_3.1 n)))
def sX8_readCommand_j308 (q : Nat → Int32) (tx : Nat → Int32) (ft : Nat → Int32) (jb : Nat → Int32) (sp : Nat) (n : Nat) (z_1 : Int32 × (Nat → Int32)) (x_2 : Int32) : Int32 × (Nat → Int32) × (Nat → Int32) × (Nat → Int32) :=
  ((z_1.2 13), z_1.2, (upd ft 10 x_2), jb)
def sX8_readCommand_z_1 (q : Nat → Int32) (tx : Nat → Int32) (ft : Nat → Int32) (jb : Nat → Int32) (sp : Nat) (n : Nat) (z_1 : Int32 × (Nat → Int32)) : Int32 × (Nat → Int32) × (Nat → Int32) × (Nat → Int32) :=
  (sX8_readCommand_j308 q tx ft jb sp n z_1 (if (z_1.2 13) = 0 then (ft 10) else z_1.1))
def sX8_readCommand (q : Nat → Int32) (tx : Nat → Int32) (ft : Nat → Int32) (jb : Nat → Int32) (sp : Nat) (n : Nat) : Int32 × (Nat → Int32) × (Nat → Int32) × (Nat → Int32) :=
  (if (tx sp) = 108 then (sX8_readCommand_z_1 q tx ft jb sp n (sX8_figures (upd (upd q 11 (nI (sp + 1))) 13 1) tx (sp + 1) 4 0 9999)) else (if (tx sp) = 109 then (sX8_readCommand_z_3 q tx ft jb sp n (sX8_figures (upd (upd q 11 (nI (sp + 1))) 13 1) tx (sp + 1) 2 1 60)) else (if (tx sp) = 110 then (0, (upd (upd q 11 (nI sp)) 13 1), ft, jb) else (if (tx sp) = 111 then (sX8_readCommand_z_7 q tx ft jb sp n (sX8_figures (upd (upd q 11 (nI (sp + 1))) 13 1) tx (sp + 1) 1 0 5)) else (if (tx sp) = 112 then (0, (upd (upd q 11 (nI sp)) 13 1), ft, jb) else (if (tx sp) = 113 then (0, (upd (upd q 11 (nI sp)) 13 1), ft, jb) else (if (tx sp) = 114 then (sX8_readCommand_z_13 q tx ft jb sp n (sX8_figures (upd (upd q 11 (nI (sp + 1))) 13 1) tx (sp + 1) 2 1 50)) else (if (tx sp) = 115 then (0, (upd (upd q 11 (nI sp)) 13 1), ft, jb) else (if (tx sp) = 116 then (0, (upd (upd q 11 (nI sp)) 13 1), ft, jb) else (if (tx sp) = 117 then (0, (upd (upd q 11 (nI sp)) 13 1), ft, jb) else (if (tx sp) = 118 then (0, (upd (upd q 11 (nI sp)) 13 1), ft, jb) else (if (tx sp) = 119 then (0, (upd (upd q 11 (nI sp)) 13 1), ft, jb) else (if (tx sp) = 120 then (0, (upd (upd q 11 (nI sp)) 13 1), ft, jb) else (if (tx sp) = 121 then (0, (upd (upd q 11 (nI sp)) 13 1), ft, jb) else (if (tx sp) = 122 then (sX8_readCommand_z_21 q tx ft jb sp n (sX8_figures (upd (upd q 11 (nI (sp + 1))) 13 1) tx (sp + 1) 1 0 5)) else (0, (upd (upd q 11 (nI sp)) 13 1), ft, jb))))))))))))))))
set_option maxRecDepth 100000 in
set_option maxHeartbeats 4000000 in
theorem c_X8_readCommand (l : Launch) (G : va_G) (kk : Nat → ClassId) (h : Nat) (b : Nat → Nat) (q : Nat → Int32) (tx : Nat → Int32) (ft : Nat → Int32) (jb : Nat → Int32) (sz : Nat) (sp : Nat) (n : Nat) (hs : q 2 = nI sz) (hz : sz ≤ 120) (hp : q 11 = nI sp) (hlt : sp < sz) (hn : ft 0 = nI n) (h6 : n ≤ 6) : CC l yX8_readCommand cX8_readCommand 6 (some .boolean) (rmO 6 136) [.ref h, .ref (b 3)] G kk ([(h, .inr (8, moF b q)), ((b 1), .inl (kk 0, 120, .inl tx)), ((b 3), .inl (kk 0, 64, .inl ft)), ((b 7), .inl (kk 0, 6, .inl jb))]) (QI G kk ([(h, .inr (8, moF b ((sX8_readCommand q tx ft jb sp n).2.1))), ((b 1), .inl (kk 0, 120, .inl tx)), ((b 3), .inl (kk 0, 64, .inl ((sX8_readCommand q tx ft jb sp n).2.2.1))), ((b 7), .inl (kk 0, 6, .inl ((sX8_readCommand q tx ft jb sp n).2.2.2)))]) ((sX8_readCommand q tx ft jb sp n).1)) := by
  refine cc_start (by decide +kernel) (Nat.le_of_ble_eq_true rfl) ?_
  intro p e s m below meth c A ls hx hb hr hml hown hts hlocks hA hE hK hP hD hS hl
  have hown : s.vm.findClass RX8 = some m.cls := hown
  have hl : lv_has ls 6 [(0, .ref h), (1, .ref (b 3))] := hl
  have eS : sX8_readCommand q tx ft jb sp n = sX8_readCommand q tx ft jb sp n := rfl
  refine lv_aload_n hx hb dX8_readCommand_0 rfl (lv_at hl 0 rfl) ?_
  refine r_get (v := .ref (b 1)) hx hb hts hown hK hP fl_X8_7 0 rfl rfl dX8_readCommand_1 ?_
  refine lv_aload_n hx hb dX8_readCommand_4 rfl (lv_at hl 0 rfl) ?_
  refine r_get (v := .int (q 11)) hx hb hts hown hK hP fl_X8_127 0 rfl rfl dX8_readCommand_5 ?_
  refine top_eq (y := (nI sp)) (hp) ?_
  refine r_iald hx hb hK hP 1 rfl sp rfl (by omega) (by decide) dX8_readCommand_8 ?_
  refine lv_istore_n (lv' := [(2, .int (tx sp)), (0, .ref h), (1, .ref (b 3))]) hx hb dX8_readCommand_9 rfl hl (by decide) rfl (fun ls hl => ?_)
  refine lv_aload_n hx hb dX8_readCommand_10 rfl (lv_at hl 1 rfl) ?_
  refine lv_dup hx hb dX8_readCommand_11 rfl ?_
  refine r_get (v := .int (q 11)) hx hb hts hown hK hP fl_X8_127 0 rfl rfl dX8_readCommand_12 ?_
  refine top_eq (y := (nI sp)) (hp) ?_
  refine lv_iconst (v := 1) hx hb dX8_readCommand_15 (by decide) ?_
  refine lv_iadd hx hb dX8_readCommand_16 ?_
  refine top_eq (nI_add sp 1) ?_
  refine r_put hx hb hts hown hK hP hD hS fl_X8_127 fw_8_11 0 rfl rfl rfl (Nat.le_of_ble_eq_true rfl) dX8_readCommand_17 (fun H locs hP hD hS => ?_)
  replace hP : va_P G vwCl ([(h, .inr (8, moF b (upd q 11 (nI (sp + 1))))), ((b 1), .inl (kk 0, 120, .inl tx)), ((b 3), .inl (kk 0, 64, .inl ft)), ((b 7), .inl (kk 0, 6, .inl jb))]) H := hP
  replace hD : va_D A ([(h, .inr (8, moF b (upd q 11 (nI (sp + 1))))), ((b 1), .inl (kk 0, 120, .inl tx)), ((b 3), .inl (kk 0, 64, .inl ft)), ((b 7), .inl (kk 0, 6, .inl jb))]) := hD
  refine lv_aload_n hx hb dX8_readCommand_20 rfl (lv_at hl 1 rfl) ?_
  refine lv_iconst (v := 1) hx hb dX8_readCommand_21 (by decide) ?_
  refine r_put hx hb hts hown hK hP hD hS fl_X8_123 fw_8_13 0 rfl rfl rfl (Nat.le_of_ble_eq_true rfl) dX8_readCommand_22 (fun H locs hP hD hS => ?_)
  replace hP : va_P G vwCl ([(h, .inr (8, moF b (upd (upd q 11 (nI (sp + 1))) 13 1))), ((b 1), .inl (kk 0, 120, .inl tx)), ((b 3), .inl (kk 0, 64, .inl ft)), ((b 7), .inl (kk 0, 6, .inl jb))]) H := hP
  replace hD : va_D A ([(h, .inr (8, moF b (upd (upd q 11 (nI (sp + 1))) 13 1))), ((b 1), .inl (kk 0, 120, .inl tx)), ((b 3), .inl (kk 0, 64, .inl ft)), ((b 7), .inl (kk 0, 6, .inl jb))]) := hD
  refine lv_iload_n hx hb dX8_readCommand_25 rfl (lv_at hl 0 rfl) ?_
  refine (Decidable.em ((tx sp) = 108)).elim (fun c_26_0 => ?_) (fun c_26_0 => ?_)
  · have eS := eS.trans (if_pos c_26_0)
    refine lv_tableIn (tgt := 280) hx hb dX8_readCommand_26 (by rw [c_26_0]; decide) (by rw [c_26_0]; decide) (by rw [c_26_0]; rfl) (by decide) ?_
    refine lv_aload_n hx hb dX8_readCommand_280 rfl (lv_at hl 1 rfl) ?_
    refine lv_iconst (v := 4) hx hb dX8_readCommand_281 (by decide) ?_
    refine lv_iconst (v := 0) hx hb dX8_readCommand_282 (by decide) ?_
    refine lv_sipush (v := 9999) hx hb dX8_readCommand_283 (by decide) ?_
    refine k_goI (k_runV (rest := []) (As := [.int 4, .int 0, .int 9999]) hx hb hml hown hts hK hP hD hS hA hE hl.1 (c_X8_figures l G kk h b (upd (upd q 11 (nI (sp + 1))) 13 1) tx sz (sp + 1) 4 0 9999 (by first | assumption | exact ((pk_un (by decide)).trans ((pk_un (by decide)).trans hs))) hz (by first | assumption | exact ((pk_un (by decide)).trans pk_us)) (by first | assumption | omega) (by decide) (by decide) (by first | assumption | exact Or.inr pk_us) (by decide)) vl_X8_136 rfl rfl rfl ⟨Nat.le_of_ble_eq_true rfl, Nat.le_of_ble_eq_true rfl, rfl, rfl⟩ [0, 1] rfl rfl ⟨Nat.zero_le _, Nat.zero_le _⟩ rfl (Nat.le_of_ble_eq_true rfl) dX8_readCommand_286) hP hD hS hA [0, 1] rfl ads2 (fun H locs hP hD hS => ?_)
    replace hP : va_P G vwCl ([(h, .inr (8, moF b ((sX8_figures (upd (upd q 11 (nI (sp + 1))) 13 1) tx (sp + 1) 4 0 9999).2))), ((b 1), .inl (kk 0, 120, .inl tx)), ((b 3), .inl (kk 0, 64, .inl ft)), ((b 7), .inl (kk 0, 6, .inl jb))]) H := hP
    replace hD : va_D A ([(h, .inr (8, moF b ((sX8_figures (upd (upd q 11 (nI (sp + 1))) 13 1) tx (sp + 1) 4 0 9999).2))), ((b 1), .inl (kk 0, 120, .inl tx)), ((b 3), .inl (kk 0, 64, .inl ft)), ((b 7), .inl (kk 0, 6, .inl jb))]) := hD
    have eS : sX8_readCommand q tx ft jb sp n = sX8_readCommand_z_1 q tx ft jb sp n (sX8_figures (upd (upd q 11 (nI (sp + 1))) 13 1) tx (sp + 1) 4 0 9999) := eS
    have hz_1 := fig_p (upd (upd q 11 (nI (sp + 1))) 13 1) tx (sp + 1) 4 0 9999 (by first | assumption | exact ((pk_un (by decide)).trans ((pk_un (by decide)).trans hs))) hz (by first | assumption | exact ((pk_un (by decide)).trans pk_us)) (by first | assumption | omega) (by decide) (by decide) (by first | assumption | exact Or.inr pk_us) (by decide)
    generalize sX8_figures (upd (upd q 11 (nI (sp + 1))) 13 1) tx (sp + 1) 4 0 9999 = z_1 at hP hD eS hz_1 ⊢
    obtain ⟨ae_1, be_1, ce_1, de_1, te_1, ue_1⟩ := fq_e hz hz_1.1
    refine lv_istore_n (lv' := [(3, .int z_1.1), (2, .int (tx sp)), (0, .ref h), (1, .ref (b 3))]) hx hb dX8_readCommand_289 rfl hl (by decide) rfl (fun ls hl => ?_)
    refine lv_aload_n hx hb dX8_readCommand_290 rfl (lv_at hl 3 rfl) ?_
    refine lv_bipush (v := 10) hx hb dX8_readCommand_291 (by decide) ?_
    refine lv_aload_n hx hb dX8_readCommand_293 rfl (lv_at hl 2 rfl) ?_
    refine r_get (v := .int (z_1.2 13)) hx hb hts hown hK hP fl_X8_123 0 rfl rfl dX8_readCommand_294 ?_
    have J_27 : ∀ (x_2 : Int32) (ex_2 : x_2 = (if (z_1.2 13) = 0 then (ft 10) else z_1.1)) (eS : sX8_readCommand q tx ft jb sp n = sX8_readCommand_j308 q tx ft jb sp n z_1 x_2) (H : Heap) (locs : List Loc) (ls : Array Slot) (hP : va_P G vwCl ([(h, .inr (8, moF b z_1.2)), ((b 1), .inl (kk 0, 120, .inl tx)), ((b 3), .inl (kk 0, 64, .inl ft)), ((b 7), .inl (kk 0, 6, .inl jb))]) H) (hD : va_D A ([(h, .inr (8, moF b z_1.2)), ((b 1), .inl (kk 0, 120, .inl tx)), ((b 3), .inl (kk 0, 64, .inl ft)), ((b 7), .inl (kk 0, 6, .inl jb))])) (hS : va_S A s.heap H locs) (hl : lv_has ls 6 [(3, .int z_1.1), (2, .int (tx sp)), (0, .ref h), (1, .ref (b 3))]), GO p l e (rmO 6 136) s m ([.ref h, .ref (b 3)] : List Value).toArray below meth c A (QI G kk ([(h, .inr (8, moF b ((sX8_readCommand q tx ft jb sp n).2.1))), ((b 1), .inl (kk 0, 120, .inl tx)), ((b 3), .inl (kk 0, 64, .inl ((sX8_readCommand q tx ft jb sp n).2.2.1))), ((b 7), .inl (kk 0, 6, .inl ((sX8_readCommand q tx ft jb sp n).2.2.2)))]) ((sX8_readCommand q tx ft jb sp n).1)) H locs (F0 m 308 ls [.int x_2, .int 10, .ref (b 3)]) := by
      intro x_2 ex_2 eS H locs ls hP hD hS hl
      refine r_iast hx hb hK hP hD hS 2 rfl 10 rfl (by decide) (by decide) dX8_readCommand_308 (fun H locs hP hD hS => ?_)
      replace hP : va_P G vwCl ([(h, .inr (8, moF b z_1.2)), ((b 1), .inl (kk 0, 120, .inl tx)), ((b 3), .inl (kk 0, 64, .inl (upd ft 10 x_2))), ((b 7), .inl (kk 0, 6, .inl jb))]) H := hP
      replace hD : va_D A ([(h, .inr (8, moF b z_1.2)), ((b 1), .inl (kk 0, 120, .inl tx)), ((b 3), .inl (kk 0, 64, .inl (upd ft 10 x_2))), ((b 7), .inl (kk 0, 6, .inl jb))]) := hD
      refine lv_aload_n hx hb dX8_readCommand_309 rfl (lv_at hl 2 rfl) ?_
      refine r_get (v := .int (z_1.2 13)) hx hb hts hown hK hP fl_X8_123 0 rfl rfl dX8_readCommand_310 ?_
      exact fin_z hx hb hr hlocks hK (vP_eq (congrArg (fun z : Int32 × (Nat → Int32) × (Nat → Int32) × (Nat → Int32) => ([(h, .inr (8, moF b z.2.1)), ((b 1), .inl (kk 0, 120, .inl tx)), ((b 3), .inl (kk 0, 64, .inl z.2.2.1)), ((b 7), .inl (kk 0, 6, .inl z.2.2.2))] : va_W)) eS.symm) hP) (vD_eq (congrArg (fun z : Int32 × (Nat → Int32) × (Nat → Int32) × (Nat → Int32) => ([(h, .inr (8, moF b z.2.1)), ((b 1), .inl (kk 0, 120, .inl tx)), ((b 3), .inl (kk 0, 64, .inl z.2.2.1)), ((b 7), .inl (kk 0, 6, .inl z.2.2.2))] : va_W)) eS.symm) hD) hS (congrArg (fun z : Int32 × (Nat → Int32) × (Nat → Int32) × (Nat → Int32) => z.1) eS) (zb_n te_1) dX8_readCommand_313
    refine lv_if_eq (tgt := 304) hx hb dX8_readCommand_297 (by decide) (fun c_297 => ?_) (fun c_297 => ?_)
    · refine lv_aload_n hx hb dX8_readCommand_304 rfl (lv_at hl 3 rfl) ?_
      refine lv_bipush (v := 10) hx hb dX8_readCommand_305 (by decide) ?_
      refine r_iald hx hb hK hP 2 rfl 10 rfl (by decide) (by decide) dX8_readCommand_307 ?_
      exact J_27 (ft 10) (if_pos c_297).symm (eS.trans (cg1 (sX8_readCommand_j308 q tx ft jb sp n z_1) (if_pos c_297))) _ _ ls hP hD hS (lv_sub hl [0, 1, 2, 3] rfl)
    · refine lv_iload_n hx hb dX8_readCommand_300 rfl (lv_at hl 0 rfl) ?_
      refine lv_goto (tgt := 308) hx hb dX8_readCommand_301 (by decide) ?_
      exact J_27 z_1.1 (if_neg c_297).symm (eS.trans (cg1 (sX8_readCommand_j308 q tx ft jb sp n z_1) (if_neg c_297))) _ _ ls hP hD hS (lv_sub hl [0, 1, 2, 3] rfl)
  have eS := eS.trans (if_neg c_26_0)
  refine (Decidable.em ((tx sp) = 109)).elim (fun c_26_1 => ?_) (fun c_26_1 => ?_)
  · have eS := eS.trans (if_pos c_26_1)
    refine lv_tableIn (tgt := 237) hx hb dX8_readCommand_26 (by rw [c_26_1]; decide) (by rw [c_26_1]; decide) (by rw [c_26_1]; rfl) (by decide) ?_
    refine lv_aload_n hx hb dX8_readCommand_237 rfl (lv_at hl 1 rfl) ?_
    refine lv_iconst (v := 2) hx hb dX8_readCommand_238 (by decide) ?_
    refine lv_iconst (v := 1) hx hb dX8_readCommand_239 (by decide) ?_
    refine lv_bipush (v := 60) hx hb dX8_readCommand_240 (by decide) ?_
    refine k_goI (k_runV (rest := []) (As := [.int 2, .int 1, .int 60]) hx hb hml hown hts hK hP hD hS hA hE hl.1 (c_X8_figures l G kk h b (upd (upd q 11 (nI (sp + 1))) 13 1) tx sz (sp + 1) 2 1 60 (by first | assumption | exact ((pk_un (by decide)).trans ((pk_un (by decide)).trans hs))) hz (by first | assumption | exact ((pk_un (by decide)).trans pk_us)) (by first | assumption | omega) (by decide) (by decide) (by first | assumption | exact Or.inr pk_us) (by decide)) vl_X8_136 rfl rfl rfl ⟨Nat.le_of_ble_eq_true rfl, Nat.le_of_ble_eq_true rfl, rfl, rfl⟩ [0, 1] rfl rfl ⟨Nat.zero_le _, Nat.zero_le _⟩ rfl (Nat.le_of_ble_eq_true rfl) dX8_readCommand_242) hP hD hS hA [0, 1] rfl ads2 (fun H locs hP hD hS => ?_)
    replace hP : va_P G vwCl ([(h, .inr (8, moF b ((sX8_figures (upd (upd q 11 (nI (sp + 1))) 13 1) tx (sp + 1) 2 1 60).2))), ((b 1), .inl (kk 0, 120, .inl tx)), ((b 3), .inl (kk 0, 64, .inl ft)), ((b 7), .inl (kk 0, 6, .inl jb))]) H := hP
    replace hD : va_D A ([(h, .inr (8, moF b ((sX8_figures (upd (upd q 11 (nI (sp + 1))) 13 1) tx (sp + 1) 2 1 60).2))), ((b 1), .inl (kk 0, 120, .inl tx)), ((b 3), .inl (kk 0, 64, .inl ft)), ((b 7), .inl (kk 0, 6, .inl jb))]) := hD
    have eS : sX8_readCommand q tx ft jb sp n = sX8_readCommand_z_3 q tx ft jb sp n (sX8_figures (upd (upd q 11 (nI (sp + 1))) 13 1) tx (sp + 1) 2 1 60) := eS
    have hz_3 := fig_p (upd (upd q 11 (nI (sp + 1))) 13 1) tx (sp + 1) 2 1 60 (by first | assumption | exact ((pk_un (by decide)).trans ((pk_un (by decide)).trans hs))) hz (by first | assumption | exact ((pk_un (by decide)).trans pk_us)) (by first | assumption | omega) (by decide) (by decide) (by first | assumption | exact Or.inr pk_us) (by decide)
    generalize sX8_figures (upd (upd q 11 (nI (sp + 1))) 13 1) tx (sp + 1) 2 1 60 = z_3 at hP hD eS hz_3 ⊢
    obtain ⟨ae_2, be_2, ce_2, de_2, te_2, ue_2⟩ := fq_e hz hz_3.1
    have hnn := nn_e hz_3.2.1
    refine lv_istore_n (lv' := [(3, .int z_3.1), (2, .int (tx sp)), (0, .ref h), (1, .ref (b 3))]) hx hb dX8_readCommand_245 rfl hl (by decide) rfl (fun ls hl => ?_)
    refine lv_aload_n hx hb dX8_readCommand_246 rfl (lv_at hl 2 rfl) ?_
    refine r_get (v := .int (z_3.2 13)) hx hb hts hown hK hP fl_X8_123 0 rfl rfl dX8_readCommand_247 ?_
    refine lv_if_eq (tgt := 278) hx hb dX8_readCommand_250 (by decide) (fun c_250 => ?_) (fun c_250 => ?_)
    · have eS := eS.trans (if_pos c_250)
      refine lv_iconst (v := 0) hx hb dX8_readCommand_278 (by decide) ?_
      exact fin_z hx hb hr hlocks hK (vP_eq (congrArg (fun z : Int32 × (Nat → Int32) × (Nat → Int32) × (Nat → Int32) => ([(h, .inr (8, moF b z.2.1)), ((b 1), .inl (kk 0, 120, .inl tx)), ((b 3), .inl (kk 0, 64, .inl z.2.2.1)), ((b 7), .inl (kk 0, 6, .inl z.2.2.2))] : va_W)) eS.symm) hP) (vD_eq (congrArg (fun z : Int32 × (Nat → Int32) × (Nat → Int32) × (Nat → Int32) => ([(h, .inr (8, moF b z.2.1)), ((b 1), .inl (kk 0, 120, .inl tx)), ((b 3), .inl (kk 0, 64, .inl z.2.2.1)), ((b 7), .inl (kk 0, 6, .inl z.2.2.2))] : va_W)) eS.symm) hD) hS (congrArg (fun z : Int32 × (Nat → Int32) × (Nat → Int32) × (Nat → Int32) => z.1) eS) rfl dX8_readCommand_279
    · have eS := eS.trans (if_neg c_250)
      refine lv_aload_n hx hb dX8_readCommand_253 rfl (lv_at hl 2 rfl) ?_
      refine lv_aload_n hx hb dX8_readCommand_254 rfl (lv_at hl 2 rfl) ?_
      refine lv_aload_n hx hb dX8_readCommand_255 rfl (lv_at hl 3 rfl) ?_
      refine lv_iload_n hx hb dX8_readCommand_256 rfl (lv_at hl 0 rfl) ?_
      refine k_goI (k_runV (rest := [.ref h]) (As := [.ref (b 3), .int z_3.1]) hx hb hml hown hts hK hP hD hS hA hE hl.1 (c_X8_runOn l G kk h b z_3.2 jb (b 3) ft z_3.1 n hn h6 hnn) vl_X8_165 rfl rfl rfl ⟨Nat.le_of_ble_eq_true rfl, Nat.le_of_ble_eq_true rfl, rfl, rfl⟩ [0, 3, 2] rfl rfl ⟨Nat.zero_le _, Nat.zero_le _⟩ rfl (Nat.le_of_ble_eq_true rfl) dX8_readCommand_257) hP hD hS hA [0, 3, 2] rfl ads3 (fun H locs hP hD hS => ?_)
      replace hP : va_P G vwCl ([(h, .inr (8, moF b ((sX8_runOn z_3.2 jb ft z_3.1 n).2.1))), ((b 1), .inl (kk 0, 120, .inl tx)), ((b 3), .inl (kk 0, 64, .inl ((sX8_runOn z_3.2 jb ft z_3.1 n).2.2.2))), ((b 7), .inl (kk 0, 6, .inl ((sX8_runOn z_3.2 jb ft z_3.1 n).2.2.1)))]) H := hP
      replace hD : va_D A ([(h, .inr (8, moF b ((sX8_runOn z_3.2 jb ft z_3.1 n).2.1))), ((b 1), .inl (kk 0, 120, .inl tx)), ((b 3), .inl (kk 0, 64, .inl ((sX8_runOn z_3.2 jb ft z_3.1 n).2.2.2))), ((b 7), .inl (kk 0, 6, .inl ((sX8_runOn z_3.2 jb ft z_3.1 n).2.2.1)))]) := hD
      have eS : sX8_readCommand q tx ft jb sp n = sX8_readCommand_z_4 q tx ft jb sp n z_3 (sX8_runOn z_3.2 jb ft z_3.1 n) := eS
      have hz_4 := rn_0 h6 z_3.2 jb ft z_3.1
      generalize sX8_runOn z_3.2 jb ft z_3.1 n = z_4 at hP hD eS hz_4 ⊢
      have J_28 : ∀ (x_5 : Int32) (ex_5 : x_5 = (if z_4.1 < 0 then 0 else 1)) (eS : sX8_readCommand q tx ft jb sp n = sX8_readCommand_j268 q tx ft jb sp n z_3 z_4 x_5) (H : Heap) (locs : List Loc) (ls : Array Slot) (hP : va_P G vwCl ([(h, .inr (8, moF b z_4.2.1)), ((b 1), .inl (kk 0, 120, .inl tx)), ((b 3), .inl (kk 0, 64, .inl z_4.2.2.2)), ((b 7), .inl (kk 0, 6, .inl z_4.2.2.1))]) H) (hD : va_D A ([(h, .inr (8, moF b z_4.2.1)), ((b 1), .inl (kk 0, 120, .inl tx)), ((b 3), .inl (kk 0, 64, .inl z_4.2.2.2)), ((b 7), .inl (kk 0, 6, .inl z_4.2.2.1))])) (hS : va_S A s.heap H locs) (hl : lv_has ls 6 [(3, .int z_3.1), (2, .int (tx sp)), (0, .ref h), (1, .ref (b 3))]), GO p l e (rmO 6 136) s m ([.ref h, .ref (b 3)] : List Value).toArray below meth c A (QI G kk ([(h, .inr (8, moF b ((sX8_readCommand q tx ft jb sp n).2.1))), ((b 1), .inl (kk 0, 120, .inl tx)), ((b 3), .inl (kk 0, 64, .inl ((sX8_readCommand q tx ft jb sp n).2.2.1))), ((b 7), .inl (kk 0, 6, .inl ((sX8_readCommand q tx ft jb sp n).2.2.2)))]) ((sX8_readCommand q tx ft jb sp n).1)) H locs (F0 m 268 ls [.int x_5, .ref h]) := by
        intro x_5 ex_5 eS H locs ls hP hD hS hl
        refine k_goI (k_runV (rest := []) (As := [.int x_5]) hx hb hml hown hts hK hP hD hS hA hE hl.1 (c_X8_done l G kk h b z_4.2.1 x_5 ) vl_X8_154 rfl rfl rfl ⟨Nat.le_of_ble_eq_true rfl, Nat.le_of_ble_eq_true rfl, rfl, rfl⟩ [0] rfl rfl ⟨Nat.zero_le _, Nat.zero_le _⟩ rfl (Nat.le_of_ble_eq_true rfl) dX8_readCommand_268) hP hD hS hA [0] rfl ads1 (fun H locs hP hD hS => ?_)
        replace hP : va_P G vwCl ([(h, .inr (8, moF b ((sX8_done z_4.2.1 x_5).2))), ((b 1), .inl (kk 0, 120, .inl tx)), ((b 3), .inl (kk 0, 64, .inl z_4.2.2.2)), ((b 7), .inl (kk 0, 6, .inl z_4.2.2.1))]) H := hP
        replace hD : va_D A ([(h, .inr (8, moF b ((sX8_done z_4.2.1 x_5).2))), ((b 1), .inl (kk 0, 120, .inl tx)), ((b 3), .inl (kk 0, 64, .inl z_4.2.2.2)), ((b 7), .inl (kk 0, 6, .inl z_4.2.2.1))]) := hD
        have eS : sX8_readCommand q tx ft jb sp n = sX8_readCommand_z_6 q tx ft jb sp n z_3 z_4 x_5 (sX8_done z_4.2.1 x_5) := eS
        generalize sX8_done z_4.2.1 x_5 = z_6 at hP hD eS ⊢
        refine lv_if_eq (tgt := 278) hx hb dX8_readCommand_271 (by decide) (fun c_271 => ?_) (fun c_271 => ?_)
        · have eS := eS.trans (if_pos c_271)
          refine lv_iconst (v := 0) hx hb dX8_readCommand_278 (by decide) ?_
          exact fin_z hx hb hr hlocks hK (vP_eq (congrArg (fun z : Int32 × (Nat → Int32) × (Nat → Int32) × (Nat → Int32) => ([(h, .inr (8, moF b z.2.1)), ((b 1), .inl (kk 0, 120, .inl tx)), ((b 3), .inl (kk 0, 64, .inl z.2.2.1)), ((b 7), .inl (kk 0, 6, .inl z.2.2.2))] : va_W)) eS.symm) hP) (vD_eq (congrArg (fun z : Int32 × (Nat → Int32) × (Nat → Int32) × (Nat → Int32) => ([(h, .inr (8, moF b z.2.1)), ((b 1), .inl (kk 0, 120, .inl tx)), ((b 3), .inl (kk 0, 64, .inl z.2.2.1)), ((b 7), .inl (kk 0, 6, .inl z.2.2.2))] : va_W)) eS.symm) hD) hS (congrArg (fun z : Int32 × (Nat → Int32) × (Nat → Int32) × (Nat → Int32) => z.1) eS) rfl dX8_readCommand_279
        · have eS := eS.trans (if_neg c_271)
          refine lv_iconst (v := 1) hx hb dX8_readCommand_274 (by decide) ?_
          refine lv_goto (tgt := 279) hx hb dX8_readCommand_275 (by decide) ?_
          exact fin_z hx hb hr hlocks hK (vP_eq (congrArg (fun z : Int32 × (Nat → Int32) × (Nat → Int32) × (Nat → Int32) => ([(h, .inr (8, moF b z.2.1)), ((b 1), .inl (kk 0, 120, .inl tx)), ((b 3), .inl (kk 0, 64, .inl z.2.2.1)), ((b 7), .inl (kk 0, 6, .inl z.2.2.2))] : va_W)) eS.symm) hP) (vD_eq (congrArg (fun z : Int32 × (Nat → Int32) × (Nat → Int32) × (Nat → Int32) => ([(h, .inr (8, moF b z.2.1)), ((b 1), .inl (kk 0, 120, .inl tx)), ((b 3), .inl (kk 0, 64, .inl z.2.2.1)), ((b 7), .inl (kk 0, 6, .inl z.2.2.2))] : va_W)) eS.symm) hD) hS (congrArg (fun z : Int32 × (Nat → Int32) × (Nat → Int32) × (Nat → Int32) => z.1) eS) rfl dX8_readCommand_279
      refine lv_if_lt (tgt := 267) hx hb dX8_readCommand_260 (by decide) (fun c_260 => ?_) (fun c_260 => ?_)
      · refine lv_iconst (v := 0) hx hb dX8_readCommand_267 (by decide) ?_
        exact J_28 0 (if_pos c_260).symm (eS.trans (cg1 (sX8_readCommand_j268 q tx ft jb sp n z_3 z_4) (if_pos c_260))) _ _ ls hP hD hS (lv_sub hl [0, 1, 2, 3] rfl)
      · refine lv_iconst (v := 1) hx hb dX8_readCommand_263 (by decide) ?_
        refine lv_goto (tgt := 268) hx hb dX8_readCommand_264 (by decide) ?_
        exact J_28 1 (if_neg c_260).symm (eS.trans (cg1 (sX8_readCommand_j268 q tx ft jb sp n z_3 z_4) (if_neg c_260))) _ _ ls hP hD hS (lv_sub hl [0, 1, 2, 3] rfl)
  have eS := eS.trans (if_neg c_26_1)
  refine (Decidable.em ((tx sp) = 110)).elim (fun c_26_2 => ?_) (fun c_26_2 => ?_)
  · have eS := eS.trans (if_pos c_26_2)
    refine lv_tableIn (tgt := 314) hx hb dX8_readCommand_26 (by rw [c_26_2]; decide) (by rw [c_26_2]; decide) (by rw [c_26_2]; rfl) (by decide) ?_
    refine lv_aload_n hx hb dX8_readCommand_314 rfl (lv_at hl 1 rfl) ?_
    refine lv_dup hx hb dX8_readCommand_315 rfl ?_
    refine r_get (v := .int (nI (sp + 1))) hx hb hts hown hK hP fl_X8_127 0 rfl rfl dX8_readCommand_316 ?_
    refine lv_iconst (v := 1) hx hb dX8_readCommand_319 (by decide) ?_
    refine lv_isub hx hb dX8_readCommand_320 ?_
    refine top_eq (y := (nI sp)) (rc_m) ?_
    refine r_put hx hb hts hown hK hP hD hS fl_X8_127 fw_8_11 0 rfl rfl rfl (Nat.le_of_ble_eq_true rfl) dX8_readCommand_321 (fun H locs hP hD hS => ?_)
    replace hP : va_P G vwCl ([(h, .inr (8, moF b (upd (upd q 11 (nI sp)) 13 1))), ((b 1), .inl (kk 0, 120, .inl tx)), ((b 3), .inl (kk 0, 64, .inl ft)), ((b 7), .inl (kk 0, 6, .inl jb))]) H := hP
    replace hD : va_D A ([(h, .inr (8, moF b (upd (upd q 11 (nI sp)) 13 1))), ((b 1), .inl (kk 0, 120, .inl tx)), ((b 3), .inl (kk 0, 64, .inl ft)), ((b 7), .inl (kk 0, 6, .inl jb))]) := hD
    refine lv_iconst (v := 0) hx hb dX8_readCommand_324 (by decide) ?_
    exact fin_z hx hb hr hlocks hK (vP_eq (congrArg (fun z : Int32 × (Nat → Int32) × (Nat → Int32) × (Nat → Int32) => ([(h, .inr (8, moF b z.2.1)), ((b 1), .inl (kk 0, 120, .inl tx)), ((b 3), .inl (kk 0, 64, .inl z.2.2.1)), ((b 7), .inl (kk 0, 6, .inl z.2.2.2))] : va_W)) eS.symm) hP) (vD_eq (congrArg (fun z : Int32 × (Nat → Int32) × (Nat → Int32) × (Nat → Int32) => ([(h, .inr (8, moF b z.2.1)), ((b 1), .inl (kk 0, 120, .inl tx)), ((b 3), .inl (kk 0, 64, .inl z.2.2.1)), ((b 7), .inl (kk 0, 6, .inl z.2.2.2))] : va_W)) eS.symm) hD) hS (congrArg (fun z : Int32 × (Nat → Int32) × (Nat → Int32) × (Nat → Int32) => z.1) eS) rfl dX8_readCommand_325
  have eS := eS.trans (if_neg c_26_2)
  refine (Decidable.em ((tx sp) = 111)).elim (fun c_26_3 => ?_) (fun c_26_3 => ?_)
  · have eS := eS.trans (if_pos c_26_3)
    refine lv_tableIn (tgt := 177) hx hb dX8_readCommand_26 (by rw [c_26_3]; decide) (by rw [c_26_3]; decide) (by rw [c_26_3]; rfl) (by decide) ?_
    refine lv_aload_n hx hb dX8_readCommand_177 rfl (lv_at hl 1 rfl) ?_
    refine lv_iconst (v := 1) hx hb dX8_readCommand_178 (by decide) ?_
    refine lv_iconst (v := 0) hx hb dX8_readCommand_179 (by decide) ?_
    refine lv_iconst (v := 5) hx hb dX8_readCommand_180 (by decide) ?_
    refine k_goI (k_runV (rest := []) (As := [.int 1, .int 0, .int 5]) hx hb hml hown hts hK hP hD hS hA hE hl.1 (c_X8_figures l G kk h b (upd (upd q 11 (nI (sp + 1))) 13 1) tx sz (sp + 1) 1 0 5 (by first | assumption | exact ((pk_un (by decide)).trans ((pk_un (by decide)).trans hs))) hz (by first | assumption | exact ((pk_un (by decide)).trans pk_us)) (by first | assumption | omega) (by decide) (by decide) (by first | assumption | exact Or.inr pk_us) (by decide)) vl_X8_136 rfl rfl rfl ⟨Nat.le_of_ble_eq_true rfl, Nat.le_of_ble_eq_true rfl, rfl, rfl⟩ [0, 1] rfl rfl ⟨Nat.zero_le _, Nat.zero_le _⟩ rfl (Nat.le_of_ble_eq_true rfl) dX8_readCommand_181) hP hD hS hA [0, 1] rfl ads2 (fun H locs hP hD hS => ?_)
    replace hP : va_P G vwCl ([(h, .inr (8, moF b ((sX8_figures (upd (upd q 11 (nI (sp + 1))) 13 1) tx (sp + 1) 1 0 5).2))), ((b 1), .inl (kk 0, 120, .inl tx)), ((b 3), .inl (kk 0, 64, .inl ft)), ((b 7), .inl (kk 0, 6, .inl jb))]) H := hP
    replace hD : va_D A ([(h, .inr (8, moF b ((sX8_figures (upd (upd q 11 (nI (sp + 1))) 13 1) tx (sp + 1) 1 0 5).2))), ((b 1), .inl (kk 0, 120, .inl tx)), ((b 3), .inl (kk 0, 64, .inl ft)), ((b 7), .inl (kk 0, 6, .inl jb))]) := hD
    have eS : sX8_readCommand q tx ft jb sp n = sX8_readCommand_z_7 q tx ft jb sp n (sX8_figures (upd (upd q 11 (nI (sp + 1))) 13 1) tx (sp + 1) 1 0 5) := eS
    have hz_7 := fig_p (upd (upd q 11 (nI (sp + 1))) 13 1) tx (sp + 1) 1 0 5 (by first | assumption | exact ((pk_un (by decide)).trans ((pk_un (by decide)).trans hs))) hz (by first | assumption | exact ((pk_un (by decide)).trans pk_us)) (by first | assumption | omega) (by decide) (by decide) (by first | assumption | exact Or.inr pk_us) (by decide)
    generalize sX8_figures (upd (upd q 11 (nI (sp + 1))) 13 1) tx (sp + 1) 1 0 5 = z_7 at hP hD eS hz_7 ⊢
    obtain ⟨ae_3, be_3, ce_3, de_3, te_3, ue_3⟩ := fq_e hz hz_7.1
    refine lv_istore_n (lv' := [(3, .int z_7.1), (2, .int (tx sp)), (0, .ref h), (1, .ref (b 3))]) hx hb dX8_readCommand_184 rfl hl (by decide) rfl (fun ls hl => ?_)
    refine lv_aload_n hx hb dX8_readCommand_185 rfl (lv_at hl 2 rfl) ?_
    refine r_get (v := .int (z_7.2 13)) hx hb hts hown hK hP fl_X8_123 0 rfl rfl dX8_readCommand_186 ?_
    refine lv_if_eq (tgt := 235) hx hb dX8_readCommand_189 (by decide) (fun c_189 => ?_) (fun c_189 => ?_)
    · have eS := eS.trans (if_pos c_189)
      refine lv_iconst (v := 0) hx hb dX8_readCommand_235 (by decide) ?_
      exact fin_z hx hb hr hlocks hK (vP_eq (congrArg (fun z : Int32 × (Nat → Int32) × (Nat → Int32) × (Nat → Int32) => ([(h, .inr (8, moF b z.2.1)), ((b 1), .inl (kk 0, 120, .inl tx)), ((b 3), .inl (kk 0, 64, .inl z.2.2.1)), ((b 7), .inl (kk 0, 6, .inl z.2.2.2))] : va_W)) eS.symm) hP) (vD_eq (congrArg (fun z : Int32 × (Nat → Int32) × (Nat → Int32) × (Nat → Int32) => ([(h, .inr (8, moF b z.2.1)), ((b 1), .inl (kk 0, 120, .inl tx)), ((b 3), .inl (kk 0, 64, .inl z.2.2.1)), ((b 7), .inl (kk 0, 6, .inl z.2.2.2))] : va_W)) eS.symm) hD) hS (congrArg (fun z : Int32 × (Nat → Int32) × (Nat → Int32) × (Nat → Int32) => z.1) eS) rfl dX8_readCommand_236
    · have eS := eS.trans (if_neg c_189)
      refine lv_aload_n hx hb dX8_readCommand_192 rfl (lv_at hl 2 rfl) ?_
      refine lv_aload_n hx hb dX8_readCommand_193 rfl (lv_at hl 3 rfl) ?_
      refine lv_iload_n hx hb dX8_readCommand_194 rfl (lv_at hl 0 rfl) ?_
      refine k_goI (k_runS (rest := [.ref h]) (As := [.ref (b 3), .int z_7.1]) hx hb hml hown hts hK hP hD hS hA hE hl.1 (c_X8_isRoom l G kk (b 3) ft z_7.1 ) sl_X8_158 ⟨Nat.le_of_ble_eq_true rfl, Nat.le_of_ble_eq_true rfl, rfl, rfl⟩ [2] rfl rfl ⟨Nat.zero_le _, Nat.zero_le _⟩ rfl (Nat.le_of_ble_eq_true rfl) dX8_readCommand_195) hP hD hS hA [2] rfl ads1 (fun H locs hP hD hS => ?_)
      replace hP : va_P G vwCl ([(h, .inr (8, moF b z_7.2)), ((b 1), .inl (kk 0, 120, .inl tx)), ((b 3), .inl (kk 0, 64, .inl ft)), ((b 7), .inl (kk 0, 6, .inl jb))]) H := hP
      replace hD : va_D A ([(h, .inr (8, moF b z_7.2)), ((b 1), .inl (kk 0, 120, .inl tx)), ((b 3), .inl (kk 0, 64, .inl ft)), ((b 7), .inl (kk 0, 6, .inl jb))]) := hD
      refine lv_if_eq (tgt := 224) hx hb dX8_readCommand_198 (by decide) (fun c_198 => ?_) (fun c_198 => ?_)
      · have eS := eS.trans (if_pos c_198)
        refine lv_iconst (v := 0) hx hb dX8_readCommand_224 (by decide) ?_
        refine k_goI (k_runV (rest := []) (As := [.int 0]) hx hb hml hown hts hK hP hD hS hA hE hl.1 (c_X8_done l G kk h b z_7.2 0 ) vl_X8_154 rfl rfl rfl ⟨Nat.le_of_ble_eq_true rfl, Nat.le_of_ble_eq_true rfl, rfl, rfl⟩ [0] rfl rfl ⟨Nat.zero_le _, Nat.zero_le _⟩ rfl (Nat.le_of_ble_eq_true rfl) dX8_readCommand_225) hP hD hS hA [0] rfl ads1 (fun H locs hP hD hS => ?_)
        replace hP : va_P G vwCl ([(h, .inr (8, moF b ((sX8_done z_7.2 0).2))), ((b 1), .inl (kk 0, 120, .inl tx)), ((b 3), .inl (kk 0, 64, .inl ft)), ((b 7), .inl (kk 0, 6, .inl jb))]) H := hP
        replace hD : va_D A ([(h, .inr (8, moF b ((sX8_done z_7.2 0).2))), ((b 1), .inl (kk 0, 120, .inl tx)), ((b 3), .inl (kk 0, 64, .inl ft)), ((b 7), .inl (kk 0, 6, .inl jb))]) := hD
        have eS : sX8_readCommand q tx ft jb sp n = sX8_readCommand_z_8 q tx ft jb sp n z_7 (sX8_done z_7.2 0) := eS
        generalize sX8_done z_7.2 0 = z_8 at hP hD eS ⊢
        refine lv_if_eq (tgt := 235) hx hb dX8_readCommand_228 (by decide) (fun c_228 => ?_) (fun c_228 => ?_)
        · have eS := eS.trans (if_pos c_228)
          refine lv_iconst (v := 0) hx hb dX8_readCommand_235 (by decide) ?_
          exact fin_z hx hb hr hlocks hK (vP_eq (congrArg (fun z : Int32 × (Nat → Int32) × (Nat → Int32) × (Nat → Int32) => ([(h, .inr (8, moF b z.2.1)), ((b 1), .inl (kk 0, 120, .inl tx)), ((b 3), .inl (kk 0, 64, .inl z.2.2.1)), ((b 7), .inl (kk 0, 6, .inl z.2.2.2))] : va_W)) eS.symm) hP) (vD_eq (congrArg (fun z : Int32 × (Nat → Int32) × (Nat → Int32) × (Nat → Int32) => ([(h, .inr (8, moF b z.2.1)), ((b 1), .inl (kk 0, 120, .inl tx)), ((b 3), .inl (kk 0, 64, .inl z.2.2.1)), ((b 7), .inl (kk 0, 6, .inl z.2.2.2))] : va_W)) eS.symm) hD) hS (congrArg (fun z : Int32 × (Nat → Int32) × (Nat → Int32) × (Nat → Int32) => z.1) eS) rfl dX8_readCommand_236
        · have eS := eS.trans (if_neg c_228)
          refine lv_iconst (v := 1) hx hb dX8_readCommand_231 (by decide) ?_
          refine lv_goto (tgt := 236) hx hb dX8_readCommand_232 (by decide) ?_
          exact fin_z hx hb hr hlocks hK (vP_eq (congrArg (fun z : Int32 × (Nat → Int32) × (Nat → Int32) × (Nat → Int32) => ([(h, .inr (8, moF b z.2.1)), ((b 1), .inl (kk 0, 120, .inl tx)), ((b 3), .inl (kk 0, 64, .inl z.2.2.1)), ((b 7), .inl (kk 0, 6, .inl z.2.2.2))] : va_W)) eS.symm) hP) (vD_eq (congrArg (fun z : Int32 × (Nat → Int32) × (Nat → Int32) × (Nat → Int32) => ([(h, .inr (8, moF b z.2.1)), ((b 1), .inl (kk 0, 120, .inl tx)), ((b 3), .inl (kk 0, 64, .inl z.2.2.1)), ((b 7), .inl (kk 0, 6, .inl z.2.2.2))] : va_W)) eS.symm) hD) hS (congrArg (fun z : Int32 × (Nat → Int32) × (Nat → Int32) × (Nat → Int32) => z.1) eS) rfl dX8_readCommand_236
      · have eS := eS.trans (if_neg c_198)
        obtain ⟨hx1, hx2⟩ := isRoom_in hn h6 c_198
        refine lv_aload_n hx hb dX8_readCommand_201 rfl (lv_at hl 3 rfl) ?_
        refine lv_iload_n hx hb dX8_readCommand_202 rfl (lv_at hl 0 rfl) ?_
        refine top_eq (y := (nI z_7.1.toNatClampNeg)) (hx1) ?_
        refine lv_iload_n hx hb dX8_readCommand_203 rfl (lv_at hl 1 rfl) ?_
        refine lv_bipush (v := 111) hx hb dX8_readCommand_204 (by decide) ?_
        have J_29 : ∀ (x_9 : Int32) (ex_9 : x_9 = (if (tx sp) = 111 then 1 else 0)) (eS : sX8_readCommand q tx ft jb sp n = sX8_readCommand_j214' q tx ft jb sp n z_7 x_9) (H : Heap) (locs : List Loc) (ls : Array Slot) (hP : va_P G vwCl ([(h, .inr (8, moF b z_7.2)), ((b 1), .inl (kk 0, 120, .inl tx)), ((b 3), .inl (kk 0, 64, .inl ft)), ((b 7), .inl (kk 0, 6, .inl jb))]) H) (hD : va_D A ([(h, .inr (8, moF b z_7.2)), ((b 1), .inl (kk 0, 120, .inl tx)), ((b 3), .inl (kk 0, 64, .inl ft)), ((b 7), .inl (kk 0, 6, .inl jb))])) (hS : va_S A s.heap H locs) (hl : lv_has ls 6 [(3, .int z_7.1), (2, .int (tx sp)), (0, .ref h), (1, .ref (b 3))]), GO p l e (rmO 6 136) s m ([.ref h, .ref (b 3)] : List Value).toArray below meth c A (QI G kk ([(h, .inr (8, moF b ((sX8_readCommand q tx ft jb sp n).2.1))), ((b 1), .inl (kk 0, 120, .inl tx)), ((b 3), .inl (kk 0, 64, .inl ((sX8_readCommand q tx ft jb sp n).2.2.1))), ((b 7), .inl (kk 0, 6, .inl ((sX8_readCommand q tx ft jb sp n).2.2.2)))]) ((sX8_readCommand q tx ft jb sp n).1)) H locs (F0 m 214 ls [.int x_9, .int (nI z_7.1.toNatClampNeg), .ref (b 3), .ref h]) := by
          intro x_9 ex_9 eS H locs ls hP hD hS hl
          refine k_goI (k_runS (rest := [.ref h]) (As := [.ref (b 3), .int (nI z_7.1.toNatClampNeg), .int x_9]) hx hb hml hown hts hK hP hD hS hA hE hl.1 (c_X8_doorOn l G kk (b 3) ft n z_7.1.toNatClampNeg x_9 hn h6 (by omega)) sl_X8_161 ⟨Nat.le_of_ble_eq_true rfl, Nat.le_of_ble_eq_true rfl, rfl, rfl⟩ [2] rfl rfl ⟨Nat.zero_le _, Nat.zero_le _⟩ rfl (Nat.le_of_ble_eq_true rfl) dX8_readCommand_214) hP hD hS hA [2] rfl ads1 (fun H locs hP hD hS => ?_)
          replace hP : va_P G vwCl ([(h, .inr (8, moF b z_7.2)), ((b 1), .inl (kk 0, 120, .inl tx)), ((b 3), .inl (kk 0, 64, .inl ((sX8_doorOn ft n z_7.1.toNatClampNeg x_9).2))), ((b 7), .inl (kk 0, 6, .inl jb))]) H := hP
          replace hD : va_D A ([(h, .inr (8, moF b z_7.2)), ((b 1), .inl (kk 0, 120, .inl tx)), ((b 3), .inl (kk 0, 64, .inl ((sX8_doorOn ft n z_7.1.toNatClampNeg x_9).2))), ((b 7), .inl (kk 0, 6, .inl jb))]) := hD
          have eS : sX8_readCommand q tx ft jb sp n = sX8_readCommand_z_10 q tx ft jb sp n z_7 x_9 (sX8_doorOn ft n z_7.1.toNatClampNeg x_9) := eS
          have hz_10 := do_0 ft n z_7.1.toNatClampNeg x_9
          generalize sX8_doorOn ft n z_7.1.toNatClampNeg x_9 = z_10 at hP hD eS hz_10 ⊢
          have J_30 : ∀ (x_11 : Int32) (ex_11 : x_11 = (if z_10.1 < 0 then 0 else 1)) (eS : sX8_readCommand q tx ft jb sp n = sX8_readCommand_j225' q tx ft jb sp n z_7 x_9 z_10 x_11) (H : Heap) (locs : List Loc) (ls : Array Slot) (hP : va_P G vwCl ([(h, .inr (8, moF b z_7.2)), ((b 1), .inl (kk 0, 120, .inl tx)), ((b 3), .inl (kk 0, 64, .inl z_10.2)), ((b 7), .inl (kk 0, 6, .inl jb))]) H) (hD : va_D A ([(h, .inr (8, moF b z_7.2)), ((b 1), .inl (kk 0, 120, .inl tx)), ((b 3), .inl (kk 0, 64, .inl z_10.2)), ((b 7), .inl (kk 0, 6, .inl jb))])) (hS : va_S A s.heap H locs) (hl : lv_has ls 6 [(3, .int z_7.1), (2, .int (tx sp)), (0, .ref h), (1, .ref (b 3))]), GO p l e (rmO 6 136) s m ([.ref h, .ref (b 3)] : List Value).toArray below meth c A (QI G kk ([(h, .inr (8, moF b ((sX8_readCommand q tx ft jb sp n).2.1))), ((b 1), .inl (kk 0, 120, .inl tx)), ((b 3), .inl (kk 0, 64, .inl ((sX8_readCommand q tx ft jb sp n).2.2.1))), ((b 7), .inl (kk 0, 6, .inl ((sX8_readCommand q tx ft jb sp n).2.2.2)))]) ((sX8_readCommand q tx ft jb sp n).1)) H locs (F0 m 225 ls [.int x_11, .ref h]) := by
            intro x_11 ex_11 eS H locs ls hP hD hS hl
            refine k_goI (k_runV (rest := []) (As := [.int x_11]) hx hb hml hown hts hK hP hD hS hA hE hl.1 (c_X8_done l G kk h b z_7.2 x_11 ) vl_X8_154 rfl rfl rfl ⟨Nat.le_of_ble_eq_true rfl, Nat.le_of_ble_eq_true rfl, rfl, rfl⟩ [0] rfl rfl ⟨Nat.zero_le _, Nat.zero_le _⟩ rfl (Nat.le_of_ble_eq_true rfl) dX8_readCommand_225) hP hD hS hA [0] rfl ads1 (fun H locs hP hD hS => ?_)
            replace hP : va_P G vwCl ([(h, .inr (8, moF b ((sX8_done z_7.2 x_11).2))), ((b 1), .inl (kk 0, 120, .inl tx)), ((b 3), .inl (kk 0, 64, .inl z_10.2)), ((b 7), .inl (kk 0, 6, .inl jb))]) H := hP
            replace hD : va_D A ([(h, .inr (8, moF b ((sX8_done z_7.2 x_11).2))), ((b 1), .inl (kk 0, 120, .inl tx)), ((b 3), .inl (kk 0, 64, .inl z_10.2)), ((b 7), .inl (kk 0, 6, .inl jb))]) := hD
            have eS : sX8_readCommand q tx ft jb sp n = sX8_readCommand_z_12 q tx ft jb sp n z_7 x_9 z_10 x_11 (sX8_done z_7.2 x_11) := eS
            generalize sX8_done z_7.2 x_11 = z_12 at hP hD eS ⊢
            refine lv_if_eq (tgt := 235) hx hb dX8_readCommand_228 (by decide) (fun c_228 => ?_) (fun c_228 => ?_)
            · have eS := eS.trans (if_pos c_228)
              refine lv_iconst (v := 0) hx hb dX8_readCommand_235 (by decide) ?_
              exact fin_z hx hb hr hlocks hK (vP_eq (congrArg (fun z : Int32 × (Nat → Int32) × (Nat → Int32) × (Nat → Int32) => ([(h, .inr (8, moF b z.2.1)), ((b 1), .inl (kk 0, 120, .inl tx)), ((b 3), .inl (kk 0, 64, .inl z.2.2.1)), ((b 7), .inl (kk 0, 6, .inl z.2.2.2))] : va_W)) eS.symm) hP) (vD_eq (congrArg (fun z : Int32 × (Nat → Int32) × (Nat → Int32) × (Nat → Int32) => ([(h, .inr (8, moF b z.2.1)), ((b 1), .inl (kk 0, 120, .inl tx)), ((b 3), .inl (kk 0, 64, .inl z.2.2.1)), ((b 7), .inl (kk 0, 6, .inl z.2.2.2))] : va_W)) eS.symm) hD) hS (congrArg (fun z : Int32 × (Nat → Int32) × (Nat → Int32) × (Nat → Int32) => z.1) eS) rfl dX8_readCommand_236
            · have eS := eS.trans (if_neg c_228)
              refine lv_iconst (v := 1) hx hb dX8_readCommand_231 (by decide) ?_
              refine lv_goto (tgt := 236) hx hb dX8_readCommand_232 (by decide) ?_
              exact fin_z hx hb hr hlocks hK (vP_eq (congrArg (fun z : Int32 × (Nat → Int32) × (Nat → Int32) × (Nat → Int32) => ([(h, .inr (8, moF b z.2.1)), ((b 1), .inl (kk 0, 120, .inl tx)), ((b 3), .inl (kk 0, 64, .inl z.2.2.1)), ((b 7), .inl (kk 0, 6, .inl z.2.2.2))] : va_W)) eS.symm) hP) (vD_eq (congrArg (fun z : Int32 × (Nat → Int32) × (Nat → Int32) × (Nat → Int32) => ([(h, .inr (8, moF b z.2.1)), ((b 1), .inl (kk 0, 120, .inl tx)), ((b 3), .inl (kk 0, 64, .inl z.2.2.1)), ((b 7), .inl (kk 0, 6, .inl z.2.2.2))] : va_W)) eS.symm) hD) hS (congrArg (fun z : Int32 × (Nat → Int32) × (Nat → Int32) × (Nat → Int32) => z.1) eS) rfl dX8_readCommand_236
          refine lv_if_lt (tgt := 224) hx hb dX8_readCommand_217 (by decide) (fun c_217 => ?_) (fun c_217 => ?_)
          · refine lv_iconst (v := 0) hx hb dX8_readCommand_224 (by decide) ?_
            exact J_30 0 (if_pos c_217).symm (eS.trans (cg1 (sX8_readCommand_j225' q tx ft jb sp n z_7 x_9 z_10) (if_pos c_217))) _ _ ls hP hD hS (lv_sub hl [0, 1, 2, 3] rfl)
          · refine lv_iconst (v := 1) hx hb dX8_readCommand_220 (by decide) ?_
            refine lv_goto (tgt := 225) hx hb dX8_readCommand_221 (by decide) ?_
            exact J_30 1 (if_neg c_217).symm (eS.trans (cg1 (sX8_readCommand_j225' q tx ft jb sp n z_7 x_9 z_10) (if_neg c_217))) _ _ ls hP hD hS (lv_sub hl [0, 1, 2, 3] rfl)
        refine lv_icmp_ne (tgt := 213) hx hb dX8_readCommand_206 (by decide) (fun c_206 => ?_) (fun c_206 => ?_)
        · refine lv_iconst (v := 0) hx hb dX8_readCommand_213 (by decide) ?_
          exact J_29 0 (if_neg c_206).symm (eS.trans (cg1 (sX8_readCommand_j214' q tx ft jb sp n z_7) (if_neg c_206))) _ _ ls hP hD hS (lv_sub hl [0, 1, 2, 3] rfl)
        · refine lv_iconst (v := 1) hx hb dX8_readCommand_209 (by decide) ?_
          refine lv_goto (tgt := 214) hx hb dX8_readCommand_210 (by decide) ?_
          exact J_29 1 (if_pos c_206).symm (eS.trans (cg1 (sX8_readCommand_j214' q tx ft jb sp n z_7) (if_pos c_206))) _ _ ls hP hD hS (lv_sub hl [0, 1, 2, 3] rfl)
  have eS := eS.trans (if_neg c_26_3)
  refine (Decidable.em ((tx sp) = 112)).elim (fun c_26_4 => ?_) (fun c_26_4 => ?_)
  · have eS := eS.trans (if_pos c_26_4)
    refine lv_tableIn (tgt := 314) hx hb dX8_readCommand_26 (by rw [c_26_4]; decide) (by rw [c_26_4]; decide) (by rw [c_26_4]; rfl) (by decide) ?_
    refine lv_aload_n hx hb dX8_readCommand_314 rfl (lv_at hl 1 rfl) ?_
    refine lv_dup hx hb dX8_readCommand_315 rfl ?_
    refine r_get (v := .int (nI (sp + 1))) hx hb hts hown hK hP fl_X8_127 0 rfl rfl dX8_readCommand_316 ?_
    refine lv_iconst (v := 1) hx hb dX8_readCommand_319 (by decide) ?_
    refine lv_isub hx hb dX8_readCommand_320 ?_
    refine top_eq (y := (nI sp)) (rc_m) ?_
    refine r_put hx hb hts hown hK hP hD hS fl_X8_127 fw_8_11 0 rfl rfl rfl (Nat.le_of_ble_eq_true rfl) dX8_readCommand_321 (fun H locs hP hD hS => ?_)
    replace hP : va_P G vwCl ([(h, .inr (8, moF b (upd (upd q 11 (nI sp)) 13 1))), ((b 1), .inl (kk 0, 120, .inl tx)), ((b 3), .inl (kk 0, 64, .inl ft)), ((b 7), .inl (kk 0, 6, .inl jb))]) H := hP
    replace hD : va_D A ([(h, .inr (8, moF b (upd (upd q 11 (nI sp)) 13 1))), ((b 1), .inl (kk 0, 120, .inl tx)), ((b 3), .inl (kk 0, 64, .inl ft)), ((b 7), .inl (kk 0, 6, .inl jb))]) := hD
    refine lv_iconst (v := 0) hx hb dX8_readCommand_324 (by decide) ?_
    exact fin_z hx hb hr hlocks hK (vP_eq (congrArg (fun z : Int32 × (Nat → Int32) × (Nat → Int32) × (Nat → Int32) => ([(h, .inr (8, moF b z.2.1)), ((b 1), .inl (kk 0, 120, .inl tx)), ((b 3), .inl (kk 0, 64, .inl z.2.2.1)), ((b 7), .inl (kk 0, 6, .inl z.2.2.2))] : va_W)) eS.symm) hP) (vD_eq (congrArg (fun z : Int32 × (Nat → Int32) × (Nat → Int32) × (Nat → Int32) => ([(h, .inr (8, moF b z.2.1)), ((b 1), .inl (kk 0, 120, .inl tx)), ((b 3), .inl (kk 0, 64, .inl z.2.2.1)), ((b 7), .inl (kk 0, 6, .inl z.2.2.2))] : va_W)) eS.symm) hD) hS (congrArg (fun z : Int32 × (Nat → Int32) × (Nat → Int32) × (Nat → Int32) => z.1) eS) rfl dX8_readCommand_325
  have eS := eS.trans (if_neg c_26_4)
  refine (Decidable.em ((tx sp) = 113)).elim (fun c_26_5 => ?_) (fun c_26_5 => ?_)
  · have eS := eS.trans (if_pos c_26_5)
    refine lv_tableIn (tgt := 314) hx hb dX8_readCommand_26 (by rw [c_26_5]; decide) (by rw [c_26_5]; decide) (by rw [c_26_5]; rfl) (by decide) ?_
    refine lv_aload_n hx hb dX8_readCommand_314 rfl (lv_at hl 1 rfl) ?_
    refine lv_dup hx hb dX8_readCommand_315 rfl ?_
    refine r_get (v := .int (nI (sp + 1))) hx hb hts hown hK hP fl_X8_127 0 rfl rfl dX8_readCommand_316 ?_
    refine lv_iconst (v := 1) hx hb dX8_readCommand_319 (by decide) ?_
    refine lv_isub hx hb dX8_readCommand_320 ?_
    refine top_eq (y := (nI sp)) (rc_m) ?_
    refine r_put hx hb hts hown hK hP hD hS fl_X8_127 fw_8_11 0 rfl rfl rfl (Nat.le_of_ble_eq_true rfl) dX8_readCommand_321 (fun H locs hP hD hS => ?_)
    replace hP : va_P G vwCl ([(h, .inr (8, moF b (upd (upd q 11 (nI sp)) 13 1))), ((b 1), .inl (kk 0, 120, .inl tx)), ((b 3), .inl (kk 0, 64, .inl ft)), ((b 7), .inl (kk 0, 6, .inl jb))]) H := hP
    replace hD : va_D A ([(h, .inr (8, moF b (upd (upd q 11 (nI sp)) 13 1))), ((b 1), .inl (kk 0, 120, .inl tx)), ((b 3), .inl (kk 0, 64, .inl ft)), ((b 7), .inl (kk 0, 6, .inl jb))]) := hD
    refine lv_iconst (v := 0) hx hb dX8_readCommand_324 (by decide) ?_
    exact fin_z hx hb hr hlocks hK (vP_eq (congrArg (fun z : Int32 × (Nat → Int32) × (Nat → Int32) × (Nat → Int32) => ([(h, .inr (8, moF b z.2.1)), ((b 1), .inl (kk 0, 120, .inl tx)), ((b 3), .inl (kk 0, 64, .inl z.2.2.1)), ((b 7), .inl (kk 0, 6, .inl z.2.2.2))] : va_W)) eS.symm) hP) (vD_eq (congrArg (fun z : Int32 × (Nat → Int32) × (Nat → Int32) × (Nat → Int32) => ([(h, .inr (8, moF b z.2.1)), ((b 1), .inl (kk 0, 120, .inl tx)), ((b 3), .inl (kk 0, 64, .inl z.2.2.1)), ((b 7), .inl (kk 0, 6, .inl z.2.2.2))] : va_W)) eS.symm) hD) hS (congrArg (fun z : Int32 × (Nat → Int32) × (Nat → Int32) × (Nat → Int32) => z.1) eS) rfl dX8_readCommand_325
  have eS := eS.trans (if_neg c_26_5)
  refine (Decidable.em ((tx sp) = 114)).elim (fun c_26_6 => ?_) (fun c_26_6 => ?_)
  · have eS := eS.trans (if_pos c_26_6)
    refine lv_tableIn (tgt := 100) hx hb dX8_readCommand_26 (by rw [c_26_6]; decide) (by rw [c_26_6]; decide) (by rw [c_26_6]; rfl) (by decide) ?_
    refine lv_aload_n hx hb dX8_readCommand_100 rfl (lv_at hl 1 rfl) ?_
    refine lv_iconst (v := 2) hx hb dX8_readCommand_101 (by decide) ?_
    refine lv_iconst (v := 1) hx hb dX8_readCommand_102 (by decide) ?_
    refine lv_bipush (v := 50) hx hb dX8_readCommand_103 (by decide) ?_
    refine k_goI (k_runV (rest := []) (As := [.int 2, .int 1, .int 50]) hx hb hml hown hts hK hP hD hS hA hE hl.1 (c_X8_figures l G kk h b (upd (upd q 11 (nI (sp + 1))) 13 1) tx sz (sp + 1) 2 1 50 (by first | assumption | exact ((pk_un (by decide)).trans ((pk_un (by decide)).trans hs))) hz (by first | assumption | exact ((pk_un (by decide)).trans pk_us)) (by first | assumption | omega) (by decide) (by decide) (by first | assumption | exact Or.inr pk_us) (by decide)) vl_X8_136 rfl rfl rfl ⟨Nat.le_of_ble_eq_true rfl, Nat.le_of_ble_eq_true rfl, rfl, rfl⟩ [0, 1] rfl rfl ⟨Nat.zero_le _, Nat.zero_le _⟩ rfl (Nat.le_of_ble_eq_true rfl) dX8_readCommand_105) hP hD hS hA [0, 1] rfl ads2 (fun H locs hP hD hS => ?_)
    replace hP : va_P G vwCl ([(h, .inr (8, moF b ((sX8_figures (upd (upd q 11 (nI (sp + 1))) 13 1) tx (sp + 1) 2 1 50).2))), ((b 1), .inl (kk 0, 120, .inl tx)), ((b 3), .inl (kk 0, 64, .inl ft)), ((b 7), .inl (kk 0, 6, .inl jb))]) H := hP
    replace hD : va_D A ([(h, .inr (8, moF b ((sX8_figures (upd (upd q 11 (nI (sp + 1))) 13 1) tx (sp + 1) 2 1 50).2))), ((b 1), .inl (kk 0, 120, .inl tx)), ((b 3), .inl (kk 0, 64, .inl ft)), ((b 7), .inl (kk 0, 6, .inl jb))]) := hD
    have eS : sX8_readCommand q tx ft jb sp n = sX8_readCommand_z_13 q tx ft jb sp n (sX8_figures (upd (upd q 11 (nI (sp + 1))) 13 1) tx (sp + 1) 2 1 50) := eS
    have hz_13 := fig_p (upd (upd q 11 (nI (sp + 1))) 13 1) tx (sp + 1) 2 1 50 (by first | assumption | exact ((pk_un (by decide)).trans ((pk_un (by decide)).trans hs))) hz (by first | assumption | exact ((pk_un (by decide)).trans pk_us)) (by first | assumption | omega) (by decide) (by decide) (by first | assumption | exact Or.inr pk_us) (by decide)
    generalize sX8_figures (upd (upd q 11 (nI (sp + 1))) 13 1) tx (sp + 1) 2 1 50 = z_13 at hP hD eS hz_13 ⊢
    obtain ⟨ae_4, be_4, ce_4, de_4, te_4, ue_4⟩ := fq_e hz hz_13.1
    refine lv_istore_n (lv' := [(3, .int z_13.1), (2, .int (tx sp)), (0, .ref h), (1, .ref (b 3))]) hx hb dX8_readCommand_108 rfl hl (by decide) rfl (fun ls hl => ?_)
    refine lv_aload_n hx hb dX8_readCommand_109 rfl (lv_at hl 2 rfl) ?_
    refine k_goI (k_runV (rest := []) (As := []) hx hb hml hown hts hK hP hD hS hA hE hl.1 (c_X8_temperature l G kk h b z_13.2 tx sz ((z_13.2 11).toNatClampNeg) (by assumption) hz (by assumption) (by assumption) (by assumption)) vl_X8_142 rfl rfl rfl ⟨Nat.le_of_ble_eq_true rfl, Nat.le_of_ble_eq_true rfl, rfl, rfl⟩ [0, 1] rfl rfl ⟨Nat.zero_le _, Nat.zero_le _⟩ rfl (Nat.le_of_ble_eq_true rfl) dX8_readCommand_110) hP hD hS hA [0, 1] rfl ads2 (fun H locs hP hD hS => ?_)
    replace hP : va_P G vwCl ([(h, .inr (8, moF b ((sX8_temperature z_13.2 tx ((z_13.2 11).toNatClampNeg)).2))), ((b 1), .inl (kk 0, 120, .inl tx)), ((b 3), .inl (kk 0, 64, .inl ft)), ((b 7), .inl (kk 0, 6, .inl jb))]) H := hP
    replace hD : va_D A ([(h, .inr (8, moF b ((sX8_temperature z_13.2 tx ((z_13.2 11).toNatClampNeg)).2))), ((b 1), .inl (kk 0, 120, .inl tx)), ((b 3), .inl (kk 0, 64, .inl ft)), ((b 7), .inl (kk 0, 6, .inl jb))]) := hD
    have eS : sX8_readCommand q tx ft jb sp n = sX8_readCommand_z_14 q tx ft jb sp n z_13 (sX8_temperature z_13.2 tx ((z_13.2 11).toNatClampNeg)) := eS
    have hz_14 := te_p z_13.2 tx ((z_13.2 11).toNatClampNeg) (by assumption) hz (by assumption) (by assumption) (by assumption)
    generalize sX8_temperature z_13.2 tx ((z_13.2 11).toNatClampNeg) = z_14 at hP hD eS hz_14 ⊢
    obtain ⟨ae_5, be_5, ce_5, de_5, te_5, ue_5⟩ := fq_e hz hz_14
    refine lv_istore (lv' := [(4, .int z_14.1), (3, .int z_13.1), (2, .int (tx sp)), (0, .ref h), (1, .ref (b 3))]) hx hb dX8_readCommand_113 hl (by decide) rfl (fun ls hl => ?_)
    refine lv_aload_n hx hb dX8_readCommand_115 rfl (lv_at hl 3 rfl) ?_
    refine k_goI (k_runV (rest := []) (As := []) hx hb hml hown hts hK hP hD hS hA hE hl.1 (c_X8_temperature l G kk h b z_14.2 tx sz ((z_14.2 11).toNatClampNeg) (by assumption) hz (by assumption) (by assumption) (by assumption)) vl_X8_142 rfl rfl rfl ⟨Nat.le_of_ble_eq_true rfl, Nat.le_of_ble_eq_true rfl, rfl, rfl⟩ [0, 1] rfl rfl ⟨Nat.zero_le _, Nat.zero_le _⟩ rfl (Nat.le_of_ble_eq_true rfl) dX8_readCommand_116) hP hD hS hA [0, 1] rfl ads2 (fun H locs hP hD hS => ?_)
    replace hP : va_P G vwCl ([(h, .inr (8, moF b ((sX8_temperature z_14.2 tx ((z_14.2 11).toNatClampNeg)).2))), ((b 1), .inl (kk 0, 120, .inl tx)), ((b 3), .inl (kk 0, 64, .inl ft)), ((b 7), .inl (kk 0, 6, .inl jb))]) H := hP
    replace hD : va_D A ([(h, .inr (8, moF b ((sX8_temperature z_14.2 tx ((z_14.2 11).toNatClampNeg)).2))), ((b 1), .inl (kk 0, 120, .inl tx)), ((b 3), .inl (kk 0, 64, .inl ft)), ((b 7), .inl (kk 0, 6, .inl jb))]) := hD
    have eS : sX8_readCommand q tx ft jb sp n = sX8_readCommand_z_15 q tx ft jb sp n z_13 z_14 (sX8_temperature z_14.2 tx ((z_14.2 11).toNatClampNeg)) := eS
    have hz_15 := te_p z_14.2 tx ((z_14.2 11).toNatClampNeg) (by assumption) hz (by assumption) (by assumption) (by assumption)
    generalize sX8_temperature z_14.2 tx ((z_14.2 11).toNatClampNeg) = z_15 at hP hD eS hz_15 ⊢
    obtain ⟨ae_6, be_6, ce_6, de_6, te_6, ue_6⟩ := fq_e hz hz_15
    refine lv_istore (lv' := [(5, .int z_15.1), (4, .int z_14.1), (3, .int z_13.1), (2, .int (tx sp)), (0, .ref h), (1, .ref (b 3))]) hx hb dX8_readCommand_119 hl (by decide) rfl (fun ls hl => ?_)
    refine lv_aload_n hx hb dX8_readCommand_121 rfl (lv_at hl 4 rfl) ?_
    refine r_get (v := .int (z_15.2 13)) hx hb hts hown hK hP fl_X8_123 0 rfl rfl dX8_readCommand_122 ?_
    refine lv_if_eq (tgt := 175) hx hb dX8_readCommand_125 (by decide) (fun c_125 => ?_) (fun c_125 => ?_)
    · have eS := eS.trans (if_pos c_125)
      refine lv_iconst (v := 0) hx hb dX8_readCommand_175 (by decide) ?_
      exact fin_z hx hb hr hlocks hK (vP_eq (congrArg (fun z : Int32 × (Nat → Int32) × (Nat → Int32) × (Nat → Int32) => ([(h, .inr (8, moF b z.2.1)), ((b 1), .inl (kk 0, 120, .inl tx)), ((b 3), .inl (kk 0, 64, .inl z.2.2.1)), ((b 7), .inl (kk 0, 6, .inl z.2.2.2))] : va_W)) eS.symm) hP) (vD_eq (congrArg (fun z : Int32 × (Nat → Int32) × (Nat → Int32) × (Nat → Int32) => ([(h, .inr (8, moF b z.2.1)), ((b 1), .inl (kk 0, 120, .inl tx)), ((b 3), .inl (kk 0, 64, .inl z.2.2.1)), ((b 7), .inl (kk 0, 6, .inl z.2.2.2))] : va_W)) eS.symm) hD) hS (congrArg (fun z : Int32 × (Nat → Int32) × (Nat → Int32) × (Nat → Int32) => z.1) eS) rfl dX8_readCommand_176
    · have eS := eS.trans (if_neg c_125)
      refine lv_aload_n hx hb dX8_readCommand_128 rfl (lv_at hl 4 rfl) ?_
      refine lv_iload_n hx hb dX8_readCommand_129 rfl (lv_at hl 2 rfl) ?_
      refine lv_iload hx hb dX8_readCommand_130 (lv_at hl 1 rfl) ?_
      refine lv_iload hx hb dX8_readCommand_132 (lv_at hl 0 rfl) ?_
      refine k_goI (k_runS (rest := [.ref h]) (As := [.int z_13.1, .int z_14.1, .int z_15.1]) hx hb hml hown hts hK hP hD hS hA hE hl.1 (c_X8_isNew l G kk z_13.1 z_14.1 z_15.1 ) sl_X8_146 ⟨Nat.le_of_ble_eq_true rfl, Nat.le_of_ble_eq_true rfl, rfl, rfl⟩ [] rfl rfl ⟨Nat.zero_le _, Nat.zero_le _⟩ rfl (Nat.le_of_ble_eq_true rfl) dX8_readCommand_134) hP hD hS hA [] rfl ads0 (fun H locs hP hD hS => ?_)
      replace hP : va_P G vwCl ([(h, .inr (8, moF b z_15.2)), ((b 1), .inl (kk 0, 120, .inl tx)), ((b 3), .inl (kk 0, 64, .inl ft)), ((b 7), .inl (kk 0, 6, .inl jb))]) H := hP
      replace hD : va_D A ([(h, .inr (8, moF b z_15.2)), ((b 1), .inl (kk 0, 120, .inl tx)), ((b 3), .inl (kk 0, 64, .inl ft)), ((b 7), .inl (kk 0, 6, .inl jb))]) := hD
      refine lv_if_eq (tgt := 164) hx hb dX8_readCommand_137 (by decide) (fun c_137 => ?_) (fun c_137 => ?_)
      · have eS := eS.trans (if_pos c_137)
        refine lv_iconst (v := 0) hx hb dX8_readCommand_164 (by decide) ?_
        refine k_goI (k_runV (rest := []) (As := [.int 0]) hx hb hml hown hts hK hP hD hS hA hE hl.1 (c_X8_done l G kk h b z_15.2 0 ) vl_X8_154 rfl rfl rfl ⟨Nat.le_of_ble_eq_true rfl, Nat.le_of_ble_eq_true rfl, rfl, rfl⟩ [0] rfl rfl ⟨Nat.zero_le _, Nat.zero_le _⟩ rfl (Nat.le_of_ble_eq_true rfl) dX8_readCommand_165) hP hD hS hA [0] rfl ads1 (fun H locs hP hD hS => ?_)
        replace hP : va_P G vwCl ([(h, .inr (8, moF b ((sX8_done z_15.2 0).2))), ((b 1), .inl (kk 0, 120, .inl tx)), ((b 3), .inl (kk 0, 64, .inl ft)), ((b 7), .inl (kk 0, 6, .inl jb))]) H := hP
        replace hD : va_D A ([(h, .inr (8, moF b ((sX8_done z_15.2 0).2))), ((b 1), .inl (kk 0, 120, .inl tx)), ((b 3), .inl (kk 0, 64, .inl ft)), ((b 7), .inl (kk 0, 6, .inl jb))]) := hD
        have eS : sX8_readCommand q tx ft jb sp n = sX8_readCommand_z_16 q tx ft jb sp n z_13 z_14 z_15 (sX8_done z_15.2 0) := eS
        generalize sX8_done z_15.2 0 = z_16 at hP hD eS ⊢
        refine lv_if_eq (tgt := 175) hx hb dX8_readCommand_168 (by decide) (fun c_168 => ?_) (fun c_168 => ?_)
        · have eS := eS.trans (if_pos c_168)
          refine lv_iconst (v := 0) hx hb dX8_readCommand_175 (by decide) ?_
          exact fin_z hx hb hr hlocks hK (vP_eq (congrArg (fun z : Int32 × (Nat → Int32) × (Nat → Int32) × (Nat → Int32) => ([(h, .inr (8, moF b z.2.1)), ((b 1), .inl (kk 0, 120, .inl tx)), ((b 3), .inl (kk 0, 64, .inl z.2.2.1)), ((b 7), .inl (kk 0, 6, .inl z.2.2.2))] : va_W)) eS.symm) hP) (vD_eq (congrArg (fun z : Int32 × (Nat → Int32) × (Nat → Int32) × (Nat → Int32) => ([(h, .inr (8, moF b z.2.1)), ((b 1), .inl (kk 0, 120, .inl tx)), ((b 3), .inl (kk 0, 64, .inl z.2.2.1)), ((b 7), .inl (kk 0, 6, .inl z.2.2.2))] : va_W)) eS.symm) hD) hS (congrArg (fun z : Int32 × (Nat → Int32) × (Nat → Int32) × (Nat → Int32) => z.1) eS) rfl dX8_readCommand_176
        · have eS := eS.trans (if_neg c_168)
          refine lv_iconst (v := 1) hx hb dX8_readCommand_171 (by decide) ?_
          refine lv_goto (tgt := 176) hx hb dX8_readCommand_172 (by decide) ?_
          exact fin_z hx hb hr hlocks hK (vP_eq (congrArg (fun z : Int32 × (Nat → Int32) × (Nat → Int32) × (Nat → Int32) => ([(h, .inr (8, moF b z.2.1)), ((b 1), .inl (kk 0, 120, .inl tx)), ((b 3), .inl (kk 0, 64, .inl z.2.2.1)), ((b 7), .inl (kk 0, 6, .inl z.2.2.2))] : va_W)) eS.symm) hP) (vD_eq (congrArg (fun z : Int32 × (Nat → Int32) × (Nat → Int32) × (Nat → Int32) => ([(h, .inr (8, moF b z.2.1)), ((b 1), .inl (kk 0, 120, .inl tx)), ((b 3), .inl (kk 0, 64, .inl z.2.2.1)), ((b 7), .inl (kk 0, 6, .inl z.2.2.2))] : va_W)) eS.symm) hD) hS (congrArg (fun z : Int32 × (Nat → Int32) × (Nat → Int32) × (Nat → Int32) => z.1) eS) rfl dX8_readCommand_176
      · have eS := eS.trans (if_neg c_137)
        refine lv_aload_n hx hb dX8_readCommand_140 rfl (lv_at hl 5 rfl) ?_
        refine lv_iconst (v := 0) hx hb dX8_readCommand_141 (by decide) ?_
        refine r_iald hx hb hK hP 2 rfl 0 rfl (by decide) (by decide) dX8_readCommand_142 ?_
        refine lv_bipush (v := 6) hx hb dX8_readCommand_143 (by decide) ?_
        refine lv_icmp_ge (tgt := 164) hx hb dX8_readCommand_145 (by decide) (fun c_145 => ?_) (fun c_145 => ?_)
        · have eS := eS.trans (if_pos c_145)
          refine lv_iconst (v := 0) hx hb dX8_readCommand_164 (by decide) ?_
          refine k_goI (k_runV (rest := []) (As := [.int 0]) hx hb hml hown hts hK hP hD hS hA hE hl.1 (c_X8_done l G kk h b z_15.2 0 ) vl_X8_154 rfl rfl rfl ⟨Nat.le_of_ble_eq_true rfl, Nat.le_of_ble_eq_true rfl, rfl, rfl⟩ [0] rfl rfl ⟨Nat.zero_le _, Nat.zero_le _⟩ rfl (Nat.le_of_ble_eq_true rfl) dX8_readCommand_165) hP hD hS hA [0] rfl ads1 (fun H locs hP hD hS => ?_)
          replace hP : va_P G vwCl ([(h, .inr (8, moF b ((sX8_done z_15.2 0).2))), ((b 1), .inl (kk 0, 120, .inl tx)), ((b 3), .inl (kk 0, 64, .inl ft)), ((b 7), .inl (kk 0, 6, .inl jb))]) H := hP
          replace hD : va_D A ([(h, .inr (8, moF b ((sX8_done z_15.2 0).2))), ((b 1), .inl (kk 0, 120, .inl tx)), ((b 3), .inl (kk 0, 64, .inl ft)), ((b 7), .inl (kk 0, 6, .inl jb))]) := hD
          have eS : sX8_readCommand q tx ft jb sp n = sX8_readCommand_z_17 q tx ft jb sp n z_13 z_14 z_15 (sX8_done z_15.2 0) := eS
          generalize sX8_done z_15.2 0 = z_17 at hP hD eS ⊢
          refine lv_if_eq (tgt := 175) hx hb dX8_readCommand_168 (by decide) (fun c_168 => ?_) (fun c_168 => ?_)
          · have eS := eS.trans (if_pos c_168)
            refine lv_iconst (v := 0) hx hb dX8_readCommand_175 (by decide) ?_
            exact fin_z hx hb hr hlocks hK (vP_eq (congrArg (fun z : Int32 × (Nat → Int32) × (Nat → Int32) × (Nat → Int32) => ([(h, .inr (8, moF b z.2.1)), ((b 1), .inl (kk 0, 120, .inl tx)), ((b 3), .inl (kk 0, 64, .inl z.2.2.1)), ((b 7), .inl (kk 0, 6, .inl z.2.2.2))] : va_W)) eS.symm) hP) (vD_eq (congrArg (fun z : Int32 × (Nat → Int32) × (Nat → Int32) × (Nat → Int32) => ([(h, .inr (8, moF b z.2.1)), ((b 1), .inl (kk 0, 120, .inl tx)), ((b 3), .inl (kk 0, 64, .inl z.2.2.1)), ((b 7), .inl (kk 0, 6, .inl z.2.2.2))] : va_W)) eS.symm) hD) hS (congrArg (fun z : Int32 × (Nat → Int32) × (Nat → Int32) × (Nat → Int32) => z.1) eS) rfl dX8_readCommand_176
          · have eS := eS.trans (if_neg c_168)
            refine lv_iconst (v := 1) hx hb dX8_readCommand_171 (by decide) ?_
            refine lv_goto (tgt := 176) hx hb dX8_readCommand_172 (by decide) ?_
            exact fin_z hx hb hr hlocks hK (vP_eq (congrArg (fun z : Int32 × (Nat → Int32) × (Nat → Int32) × (Nat → Int32) => ([(h, .inr (8, moF b z.2.1)), ((b 1), .inl (kk 0, 120, .inl tx)), ((b 3), .inl (kk 0, 64, .inl z.2.2.1)), ((b 7), .inl (kk 0, 6, .inl z.2.2.2))] : va_W)) eS.symm) hP) (vD_eq (congrArg (fun z : Int32 × (Nat → Int32) × (Nat → Int32) × (Nat → Int32) => ([(h, .inr (8, moF b z.2.1)), ((b 1), .inl (kk 0, 120, .inl tx)), ((b 3), .inl (kk 0, 64, .inl z.2.2.1)), ((b 7), .inl (kk 0, 6, .inl z.2.2.2))] : va_W)) eS.symm) hD) hS (congrArg (fun z : Int32 × (Nat → Int32) × (Nat → Int32) × (Nat → Int32) => z.1) eS) rfl dX8_readCommand_176
        · have eS := eS.trans (if_neg c_145)
          have h5 := lt6 hn h6 c_145
          refine lv_aload_n hx hb dX8_readCommand_148 rfl (lv_at hl 5 rfl) ?_
          refine lv_iload_n hx hb dX8_readCommand_149 rfl (lv_at hl 2 rfl) ?_
          refine lv_iload hx hb dX8_readCommand_150 (lv_at hl 1 rfl) ?_
          refine lv_iload hx hb dX8_readCommand_152 (lv_at hl 0 rfl) ?_
          refine k_goI (k_runS (rest := [.ref h]) (As := [.ref (b 3), .int z_13.1, .int z_14.1, .int z_15.1]) hx hb hml hown hts hK hP hD hS hA hE hl.1 (c_X8_addOn l G kk (b 3) ft n z_13.1 z_14.1 z_15.1 hn h5) sl_X8_150 ⟨Nat.le_of_ble_eq_true rfl, Nat.le_of_ble_eq_true rfl, rfl, rfl⟩ [2] rfl rfl ⟨Nat.zero_le _, Nat.zero_le _⟩ rfl (Nat.le_of_ble_eq_true rfl) dX8_readCommand_154) hP hD hS hA [2] rfl ads1 (fun H locs hP hD hS => ?_)
          replace hP : va_P G vwCl ([(h, .inr (8, moF b z_15.2)), ((b 1), .inl (kk 0, 120, .inl tx)), ((b 3), .inl (kk 0, 64, .inl ((sX8_addOn ft n z_13.1 z_14.1 z_15.1).2))), ((b 7), .inl (kk 0, 6, .inl jb))]) H := hP
          replace hD : va_D A ([(h, .inr (8, moF b z_15.2)), ((b 1), .inl (kk 0, 120, .inl tx)), ((b 3), .inl (kk 0, 64, .inl ((sX8_addOn ft n z_13.1 z_14.1 z_15.1).2))), ((b 7), .inl (kk 0, 6, .inl jb))]) := hD
          have eS : sX8_readCommand q tx ft jb sp n = sX8_readCommand_z_18 q tx ft jb sp n z_13 z_14 z_15 (sX8_addOn ft n z_13.1 z_14.1 z_15.1) := eS
          generalize sX8_addOn ft n z_13.1 z_14.1 z_15.1 = z_18 at hP hD eS ⊢
          have J_31 : ∀ (x_19 : Int32) (ex_19 : x_19 = (if z_18.1 < 0 then 0 else 1)) (eS : sX8_readCommand q tx ft jb sp n = sX8_readCommand_j165 q tx ft jb sp n z_13 z_14 z_15 z_18 x_19) (H : Heap) (locs : List Loc) (ls : Array Slot) (hP : va_P G vwCl ([(h, .inr (8, moF b z_15.2)), ((b 1), .inl (kk 0, 120, .inl tx)), ((b 3), .inl (kk 0, 64, .inl z_18.2)), ((b 7), .inl (kk 0, 6, .inl jb))]) H) (hD : va_D A ([(h, .inr (8, moF b z_15.2)), ((b 1), .inl (kk 0, 120, .inl tx)), ((b 3), .inl (kk 0, 64, .inl z_18.2)), ((b 7), .inl (kk 0, 6, .inl jb))])) (hS : va_S A s.heap H locs) (hl : lv_has ls 6 [(5, .int z_15.1), (4, .int z_14.1), (3, .int z_13.1), (2, .int (tx sp)), (0, .ref h), (1, .ref (b 3))]), GO p l e (rmO 6 136) s m ([.ref h, .ref (b 3)] : List Value).toArray below meth c A (QI G kk ([(h, .inr (8, moF b ((sX8_readCommand q tx ft jb sp n).2.1))), ((b 1), .inl (kk 0, 120, .inl tx)), ((b 3), .inl (kk 0, 64, .inl ((sX8_readCommand q tx ft jb sp n).2.2.1))), ((b 7), .inl (kk 0, 6, .inl ((sX8_readCommand q tx ft jb sp n).2.2.2)))]) ((sX8_readCommand q tx ft jb sp n).1)) H locs (F0 m 165 ls [.int x_19, .ref h]) := by
            intro x_19 ex_19 eS H locs ls hP hD hS hl
            refine k_goI (k_runV (rest := []) (As := [.int x_19]) hx hb hml hown hts hK hP hD hS hA hE hl.1 (c_X8_done l G kk h b z_15.2 x_19 ) vl_X8_154 rfl rfl rfl ⟨Nat.le_of_ble_eq_true rfl, Nat.le_of_ble_eq_true rfl, rfl, rfl⟩ [0] rfl rfl ⟨Nat.zero_le _, Nat.zero_le _⟩ rfl (Nat.le_of_ble_eq_true rfl) dX8_readCommand_165) hP hD hS hA [0] rfl ads1 (fun H locs hP hD hS => ?_)
            replace hP : va_P G vwCl ([(h, .inr (8, moF b ((sX8_done z_15.2 x_19).2))), ((b 1), .inl (kk 0, 120, .inl tx)), ((b 3), .inl (kk 0, 64, .inl z_18.2)), ((b 7), .inl (kk 0, 6, .inl jb))]) H := hP
            replace hD : va_D A ([(h, .inr (8, moF b ((sX8_done z_15.2 x_19).2))), ((b 1), .inl (kk 0, 120, .inl tx)), ((b 3), .inl (kk 0, 64, .inl z_18.2)), ((b 7), .inl (kk 0, 6, .inl jb))]) := hD
            have eS : sX8_readCommand q tx ft jb sp n = sX8_readCommand_z_20 q tx ft jb sp n z_13 z_14 z_15 z_18 x_19 (sX8_done z_15.2 x_19) := eS
            generalize sX8_done z_15.2 x_19 = z_20 at hP hD eS ⊢
            refine lv_if_eq (tgt := 175) hx hb dX8_readCommand_168 (by decide) (fun c_168 => ?_) (fun c_168 => ?_)
            · have eS := eS.trans (if_pos c_168)
              refine lv_iconst (v := 0) hx hb dX8_readCommand_175 (by decide) ?_
              exact fin_z hx hb hr hlocks hK (vP_eq (congrArg (fun z : Int32 × (Nat → Int32) × (Nat → Int32) × (Nat → Int32) => ([(h, .inr (8, moF b z.2.1)), ((b 1), .inl (kk 0, 120, .inl tx)), ((b 3), .inl (kk 0, 64, .inl z.2.2.1)), ((b 7), .inl (kk 0, 6, .inl z.2.2.2))] : va_W)) eS.symm) hP) (vD_eq (congrArg (fun z : Int32 × (Nat → Int32) × (Nat → Int32) × (Nat → Int32) => ([(h, .inr (8, moF b z.2.1)), ((b 1), .inl (kk 0, 120, .inl tx)), ((b 3), .inl (kk 0, 64, .inl z.2.2.1)), ((b 7), .inl (kk 0, 6, .inl z.2.2.2))] : va_W)) eS.symm) hD) hS (congrArg (fun z : Int32 × (Nat → Int32) × (Nat → Int32) × (Nat → Int32) => z.1) eS) rfl dX8_readCommand_176
            · have eS := eS.trans (if_neg c_168)
              refine lv_iconst (v := 1) hx hb dX8_readCommand_171 (by decide) ?_
              refine lv_goto (tgt := 176) hx hb dX8_readCommand_172 (by decide) ?_
              exact fin_z hx hb hr hlocks hK (vP_eq (congrArg (fun z : Int32 × (Nat → Int32) × (Nat → Int32) × (Nat → Int32) => ([(h, .inr (8, moF b z.2.1)), ((b 1), .inl (kk 0, 120, .inl tx)), ((b 3), .inl (kk 0, 64, .inl z.2.2.1)), ((b 7), .inl (kk 0, 6, .inl z.2.2.2))] : va_W)) eS.symm) hP) (vD_eq (congrArg (fun z : Int32 × (Nat → Int32) × (Nat → Int32) × (Nat → Int32) => ([(h, .inr (8, moF b z.2.1)), ((b 1), .inl (kk 0, 120, .inl tx)), ((b 3), .inl (kk 0, 64, .inl z.2.2.1)), ((b 7), .inl (kk 0, 6, .inl z.2.2.2))] : va_W)) eS.symm) hD) hS (congrArg (fun z : Int32 × (Nat → Int32) × (Nat → Int32) × (Nat → Int32) => z.1) eS) rfl dX8_readCommand_176
          refine lv_if_lt (tgt := 164) hx hb dX8_readCommand_157 (by decide) (fun c_157 => ?_) (fun c_157 => ?_)
          · refine lv_iconst (v := 0) hx hb dX8_readCommand_164 (by decide) ?_
            exact J_31 0 (if_pos c_157).symm (eS.trans (cg1 (sX8_readCommand_j165 q tx ft jb sp n z_13 z_14 z_15 z_18) (if_pos c_157))) _ _ ls hP hD hS (lv_sub hl [0, 1, 2, 3, 4, 5] rfl)
          · refine lv_iconst (v := 1) hx hb dX8_readCommand_160 (by decide) ?_
            refine lv_goto (tgt := 165) hx hb dX8_readCommand_161 (by decide) ?_
            exact J_31 1 (if_neg c_157).symm (eS.trans (cg1 (sX8_readCommand_j165 q tx ft jb sp n z_13 z_14 z_15 z_18) (if_neg c_157))) _ _ ls hP hD hS (lv_sub hl [0, 1, 2, 3, 4, 5] rfl)
  have eS := eS.trans (if_neg c_26_6)
  refine (Decidable.em ((tx sp) = 115)).elim (fun c_26_7 => ?_) (fun c_26_7 => ?_)
  · have eS := eS.trans (if_pos c_26_7)
    refine lv_tableIn (tgt := 314) hx hb dX8_readCommand_26 (by rw [c_26_7]; decide) (by rw [c_26_7]; decide) (by rw [c_26_7]; rfl) (by decide) ?_
    refine lv_aload_n hx hb dX8_readCommand_314 rfl (lv_at hl 1 rfl) ?_
    refine lv_dup hx hb dX8_readCommand_315 rfl ?_
    refine r_get (v := .int (nI (sp + 1))) hx hb hts hown hK hP fl_X8_127 0 rfl rfl dX8_readCommand_316 ?_
    refine lv_iconst (v := 1) hx hb dX8_readCommand_319 (by decide) ?_
    refine lv_isub hx hb dX8_readCommand_320 ?_
    refine top_eq (y := (nI sp)) (rc_m) ?_
    refine r_put hx hb hts hown hK hP hD hS fl_X8_127 fw_8_11 0 rfl rfl rfl (Nat.le_of_ble_eq_true rfl) dX8_readCommand_321 (fun H locs hP hD hS => ?_)
    replace hP : va_P G vwCl ([(h, .inr (8, moF b (upd (upd q 11 (nI sp)) 13 1))), ((b 1), .inl (kk 0, 120, .inl tx)), ((b 3), .inl (kk 0, 64, .inl ft)), ((b 7), .inl (kk 0, 6, .inl jb))]) H := hP
    replace hD : va_D A ([(h, .inr (8, moF b (upd (upd q 11 (nI sp)) 13 1))), ((b 1), .inl (kk 0, 120, .inl tx)), ((b 3), .inl (kk 0, 64, .inl ft)), ((b 7), .inl (kk 0, 6, .inl jb))]) := hD
    refine lv_iconst (v := 0) hx hb dX8_readCommand_324 (by decide) ?_
    exact fin_z hx hb hr hlocks hK (vP_eq (congrArg (fun z : Int32 × (Nat → Int32) × (Nat → Int32) × (Nat → Int32) => ([(h, .inr (8, moF b z.2.1)), ((b 1), .inl (kk 0, 120, .inl tx)), ((b 3), .inl (kk 0, 64, .inl z.2.2.1)), ((b 7), .inl (kk 0, 6, .inl z.2.2.2))] : va_W)) eS.symm) hP) (vD_eq (congrArg (fun z : Int32 × (Nat → Int32) × (Nat → Int32) × (Nat → Int32) => ([(h, .inr (8, moF b z.2.1)), ((b 1), .inl (kk 0, 120, .inl tx)), ((b 3), .inl (kk 0, 64, .inl z.2.2.1)), ((b 7), .inl (kk 0, 6, .inl z.2.2.2))] : va_W)) eS.symm) hD) hS (congrArg (fun z : Int32 × (Nat → Int32) × (Nat → Int32) × (Nat → Int32) => z.1) eS) rfl dX8_readCommand_325
  have eS := eS.trans (if_neg c_26_7)
  refine (Decidable.em ((tx sp) = 116)).elim (fun c_26_8 => ?_) (fun c_26_8 => ?_)
  · have eS := eS.trans (if_pos c_26_8)
    refine lv_tableIn (tgt := 314) hx hb dX8_readCommand_26 (by rw [c_26_8]; decide) (by rw [c_26_8]; decide) (by rw [c_26_8]; rfl) (by decide) ?_
    refine lv_aload_n hx hb dX8_readCommand_314 rfl (lv_at hl 1 rfl) ?_
    refine lv_dup hx hb dX8_readCommand_315 rfl ?_
    refine r_get (v := .int (nI (sp + 1))) hx hb hts hown hK hP fl_X8_127 0 rfl rfl dX8_readCommand_316 ?_
    refine lv_iconst (v := 1) hx hb dX8_readCommand_319 (by decide) ?_
    refine lv_isub hx hb dX8_readCommand_320 ?_
    refine top_eq (y := (nI sp)) (rc_m) ?_
    refine r_put hx hb hts hown hK hP hD hS fl_X8_127 fw_8_11 0 rfl rfl rfl (Nat.le_of_ble_eq_true rfl) dX8_readCommand_321 (fun H locs hP hD hS => ?_)
    replace hP : va_P G vwCl ([(h, .inr (8, moF b (upd (upd q 11 (nI sp)) 13 1))), ((b 1), .inl (kk 0, 120, .inl tx)), ((b 3), .inl (kk 0, 64, .inl ft)), ((b 7), .inl (kk 0, 6, .inl jb))]) H := hP
    replace hD : va_D A ([(h, .inr (8, moF b (upd (upd q 11 (nI sp)) 13 1))), ((b 1), .inl (kk 0, 120, .inl tx)), ((b 3), .inl (kk 0, 64, .inl ft)), ((b 7), .inl (kk 0, 6, .inl jb))]) := hD
    refine lv_iconst (v := 0) hx hb dX8_readCommand_324 (by decide) ?_
    exact fin_z hx hb hr hlocks hK (vP_eq (congrArg (fun z : Int32 × (Nat → Int32) × (Nat → Int32) × (Nat → Int32) => ([(h, .inr (8, moF b z.2.1)), ((b 1), .inl (kk 0, 120, .inl tx)), ((b 3), .inl (kk 0, 64, .inl z.2.2.1)), ((b 7), .inl (kk 0, 6, .inl z.2.2.2))] : va_W)) eS.symm) hP) (vD_eq (congrArg (fun z : Int32 × (Nat → Int32) × (Nat → Int32) × (Nat → Int32) => ([(h, .inr (8, moF b z.2.1)), ((b 1), .inl (kk 0, 120, .inl tx)), ((b 3), .inl (kk 0, 64, .inl z.2.2.1)), ((b 7), .inl (kk 0, 6, .inl z.2.2.2))] : va_W)) eS.symm) hD) hS (congrArg (fun z : Int32 × (Nat → Int32) × (Nat → Int32) × (Nat → Int32) => z.1) eS) rfl dX8_readCommand_325
  have eS := eS.trans (if_neg c_26_8)
  refine (Decidable.em ((tx sp) = 117)).elim (fun c_26_9 => ?_) (fun c_26_9 => ?_)
  · have eS := eS.trans (if_pos c_26_9)
    refine lv_tableIn (tgt := 314) hx hb dX8_readCommand_26 (by rw [c_26_9]; decide) (by rw [c_26_9]; decide) (by rw [c_26_9]; rfl) (by decide) ?_
    refine lv_aload_n hx hb dX8_readCommand_314 rfl (lv_at hl 1 rfl) ?_
    refine lv_dup hx hb dX8_readCommand_315 rfl ?_
    refine r_get (v := .int (nI (sp + 1))) hx hb hts hown hK hP fl_X8_127 0 rfl rfl dX8_readCommand_316 ?_
    refine lv_iconst (v := 1) hx hb dX8_readCommand_319 (by decide) ?_
    refine lv_isub hx hb dX8_readCommand_320 ?_
    refine top_eq (y := (nI sp)) (rc_m) ?_
    refine r_put hx hb hts hown hK hP hD hS fl_X8_127 fw_8_11 0 rfl rfl rfl (Nat.le_of_ble_eq_true rfl) dX8_readCommand_321 (fun H locs hP hD hS => ?_)
    replace hP : va_P G vwCl ([(h, .inr (8, moF b (upd (upd q 11 (nI sp)) 13 1))), ((b 1), .inl (kk 0, 120, .inl tx)), ((b 3), .inl (kk 0, 64, .inl ft)), ((b 7), .inl (kk 0, 6, .inl jb))]) H := hP
    replace hD : va_D A ([(h, .inr (8, moF b (upd (upd q 11 (nI sp)) 13 1))), ((b 1), .inl (kk 0, 120, .inl tx)), ((b 3), .inl (kk 0, 64, .inl ft)), ((b 7), .inl (kk 0, 6, .inl jb))]) := hD
    refine lv_iconst (v := 0) hx hb dX8_readCommand_324 (by decide) ?_
    exact fin_z hx hb hr hlocks hK (vP_eq (congrArg (fun z : Int32 × (Nat → Int32) × (Nat → Int32) × (Nat → Int32) => ([(h, .inr (8, moF b z.2.1)), ((b 1), .inl (kk 0, 120, .inl tx)), ((b 3), .inl (kk 0, 64, .inl z.2.2.1)), ((b 7), .inl (kk 0, 6, .inl z.2.2.2))] : va_W)) eS.symm) hP) (vD_eq (congrArg (fun z : Int32 × (Nat → Int32) × (Nat → Int32) × (Nat → Int32) => ([(h, .inr (8, moF b z.2.1)), ((b 1), .inl (kk 0, 120, .inl tx)), ((b 3), .inl (kk 0, 64, .inl z.2.2.1)), ((b 7), .inl (kk 0, 6, .inl z.2.2.2))] : va_W)) eS.symm) hD) hS (congrArg (fun z : Int32 × (Nat → Int32) × (Nat → Int32) × (Nat → Int32) => z.1) eS) rfl dX8_readCommand_325
  have eS := eS.trans (if_neg c_26_9)
  refine (Decidable.em ((tx sp) = 118)).elim (fun c_26_10 => ?_) (fun c_26_10 => ?_)
  · have eS := eS.trans (if_pos c_26_10)
    refine lv_tableIn (tgt := 314) hx hb dX8_readCommand_26 (by rw [c_26_10]; decide) (by rw [c_26_10]; decide) (by rw [c_26_10]; rfl) (by decide) ?_
    refine lv_aload_n hx hb dX8_readCommand_314 rfl (lv_at hl 1 rfl) ?_
    refine lv_dup hx hb dX8_readCommand_315 rfl ?_
    refine r_get (v := .int (nI (sp + 1))) hx hb hts hown hK hP fl_X8_127 0 rfl rfl dX8_readCommand_316 ?_
    refine lv_iconst (v := 1) hx hb dX8_readCommand_319 (by decide) ?_
    refine lv_isub hx hb dX8_readCommand_320 ?_
    refine top_eq (y := (nI sp)) (rc_m) ?_
    refine r_put hx hb hts hown hK hP hD hS fl_X8_127 fw_8_11 0 rfl rfl rfl (Nat.le_of_ble_eq_true rfl) dX8_readCommand_321 (fun H locs hP hD hS => ?_)
    replace hP : va_P G vwCl ([(h, .inr (8, moF b (upd (upd q 11 (nI sp)) 13 1))), ((b 1), .inl (kk 0, 120, .inl tx)), ((b 3), .inl (kk 0, 64, .inl ft)), ((b 7), .inl (kk 0, 6, .inl jb))]) H := hP
    replace hD : va_D A ([(h, .inr (8, moF b (upd (upd q 11 (nI sp)) 13 1))), ((b 1), .inl (kk 0, 120, .inl tx)), ((b 3), .inl (kk 0, 64, .inl ft)), ((b 7), .inl (kk 0, 6, .inl jb))]) := hD
    refine lv_iconst (v := 0) hx hb dX8_readCommand_324 (by decide) ?_
    exact fin_z hx hb hr hlocks hK (vP_eq (congrArg (fun z : Int32 × (Nat → Int32) × (Nat → Int32) × (Nat → Int32) => ([(h, .inr (8, moF b z.2.1)), ((b 1), .inl (kk 0, 120, .inl tx)), ((b 3), .inl (kk 0, 64, .inl z.2.2.1)), ((b 7), .inl (kk 0, 6, .inl z.2.2.2))] : va_W)) eS.symm) hP) (vD_eq (congrArg (fun z : Int32 × (Nat → Int32) × (Nat → Int32) × (Nat → Int32) => ([(h, .inr (8, moF b z.2.1)), ((b 1), .inl (kk 0, 120, .inl tx)), ((b 3), .inl (kk 0, 64, .inl z.2.2.1)), ((b 7), .inl (kk 0, 6, .inl z.2.2.2))] : va_W)) eS.symm) hD) hS (congrArg (fun z : Int32 × (Nat → Int32) × (Nat → Int32) × (Nat → Int32) => z.1) eS) rfl dX8_readCommand_325
  have eS := eS.trans (if_neg c_26_10)
  refine (Decidable.em ((tx sp) = 119)).elim (fun c_26_11 => ?_) (fun c_26_11 => ?_)
  · have eS := eS.trans (if_pos c_26_11)
    refine lv_tableIn (tgt := 314) hx hb dX8_readCommand_26 (by rw [c_26_11]; decide) (by rw [c_26_11]; decide) (by rw [c_26_11]; rfl) (by decide) ?_
    refine lv_aload_n hx hb dX8_readCommand_314 rfl (lv_at hl 1 rfl) ?_
    refine lv_dup hx hb dX8_readCommand_315 rfl ?_
    refine r_get (v := .int (nI (sp + 1))) hx hb hts hown hK hP fl_X8_127 0 rfl rfl dX8_readCommand_316 ?_
    refine lv_iconst (v := 1) hx hb dX8_readCommand_319 (by decide) ?_
    refine lv_isub hx hb dX8_readCommand_320 ?_
    refine top_eq (y := (nI sp)) (rc_m) ?_
    refine r_put hx hb hts hown hK hP hD hS fl_X8_127 fw_8_11 0 rfl rfl rfl (Nat.le_of_ble_eq_true rfl) dX8_readCommand_321 (fun H locs hP hD hS => ?_)
    replace hP : va_P G vwCl ([(h, .inr (8, moF b (upd (upd q 11 (nI sp)) 13 1))), ((b 1), .inl (kk 0, 120, .inl tx)), ((b 3), .inl (kk 0, 64, .inl ft)), ((b 7), .inl (kk 0, 6, .inl jb))]) H := hP
    replace hD : va_D A ([(h, .inr (8, moF b (upd (upd q 11 (nI sp)) 13 1))), ((b 1), .inl (kk 0, 120, .inl tx)), ((b 3), .inl (kk 0, 64, .inl ft)), ((b 7), .inl (kk 0, 6, .inl jb))]) := hD
    refine lv_iconst (v := 0) hx hb dX8_readCommand_324 (by decide) ?_
    exact fin_z hx hb hr hlocks hK (vP_eq (congrArg (fun z : Int32 × (Nat → Int32) × (Nat → Int32) × (Nat → Int32) => ([(h, .inr (8, moF b z.2.1)), ((b 1), .inl (kk 0, 120, .inl tx)), ((b 3), .inl (kk 0, 64, .inl z.2.2.1)), ((b 7), .inl (kk 0, 6, .inl z.2.2.2))] : va_W)) eS.symm) hP) (vD_eq (congrArg (fun z : Int32 × (Nat → Int32) × (Nat → Int32) × (Nat → Int32) => ([(h, .inr (8, moF b z.2.1)), ((b 1), .inl (kk 0, 120, .inl tx)), ((b 3), .inl (kk 0, 64, .inl z.2.2.1)), ((b 7), .inl (kk 0, 6, .inl z.2.2.2))] : va_W)) eS.symm) hD) hS (congrArg (fun z : Int32 × (Nat → Int32) × (Nat → Int32) × (Nat → Int32) => z.1) eS) rfl dX8_readCommand_325
  have eS := eS.trans (if_neg c_26_11)
  refine (Decidable.em ((tx sp) = 120)).elim (fun c_26_12 => ?_) (fun c_26_12 => ?_)
  · have eS := eS.trans (if_pos c_26_12)
    refine lv_tableIn (tgt := 314) hx hb dX8_readCommand_26 (by rw [c_26_12]; decide) (by rw [c_26_12]; decide) (by rw [c_26_12]; rfl) (by decide) ?_
    refine lv_aload_n hx hb dX8_readCommand_314 rfl (lv_at hl 1 rfl) ?_
    refine lv_dup hx hb dX8_readCommand_315 rfl ?_
    refine r_get (v := .int (nI (sp + 1))) hx hb hts hown hK hP fl_X8_127 0 rfl rfl dX8_readCommand_316 ?_
    refine lv_iconst (v := 1) hx hb dX8_readCommand_319 (by decide) ?_
    refine lv_isub hx hb dX8_readCommand_320 ?_
    refine top_eq (y := (nI sp)) (rc_m) ?_
    refine r_put hx hb hts hown hK hP hD hS fl_X8_127 fw_8_11 0 rfl rfl rfl (Nat.le_of_ble_eq_true rfl) dX8_readCommand_321 (fun H locs hP hD hS => ?_)
    replace hP : va_P G vwCl ([(h, .inr (8, moF b (upd (upd q 11 (nI sp)) 13 1))), ((b 1), .inl (kk 0, 120, .inl tx)), ((b 3), .inl (kk 0, 64, .inl ft)), ((b 7), .inl (kk 0, 6, .inl jb))]) H := hP
    replace hD : va_D A ([(h, .inr (8, moF b (upd (upd q 11 (nI sp)) 13 1))), ((b 1), .inl (kk 0, 120, .inl tx)), ((b 3), .inl (kk 0, 64, .inl ft)), ((b 7), .inl (kk 0, 6, .inl jb))]) := hD
    refine lv_iconst (v := 0) hx hb dX8_readCommand_324 (by decide) ?_
    exact fin_z hx hb hr hlocks hK (vP_eq (congrArg (fun z : Int32 × (Nat → Int32) × (Nat → Int32) × (Nat → Int32) => ([(h, .inr (8, moF b z.2.1)), ((b 1), .inl (kk 0, 120, .inl tx)), ((b 3), .inl (kk 0, 64, .inl z.2.2.1)), ((b 7), .inl (kk 0, 6, .inl z.2.2.2))] : va_W)) eS.symm) hP) (vD_eq (congrArg (fun z : Int32 × (Nat → Int32) × (Nat → Int32) × (Nat → Int32) => ([(h, .inr (8, moF b z.2.1)), ((b 1), .inl (kk 0, 120, .inl tx)), ((b 3), .inl (kk 0, 64, .inl z.2.2.1)), ((b 7), .inl (kk 0, 6, .inl z.2.2.2))] : va_W)) eS.symm) hD) hS (congrArg (fun z : Int32 × (Nat → Int32) × (Nat → Int32) × (Nat → Int32) => z.1) eS) rfl dX8_readCommand_325
  have eS := eS.trans (if_neg c_26_12)
  refine (Decidable.em ((tx sp) = 121)).elim (fun c_26_13 => ?_) (fun c_26_13 => ?_)
  · have eS := eS.trans (if_pos c_26_13)
    refine lv_tableIn (tgt := 314) hx hb dX8_readCommand_26 (by rw [c_26_13]; decide) (by rw [c_26_13]; decide) (by rw [c_26_13]; rfl) (by decide) ?_
    refine lv_aload_n hx hb dX8_readCommand_314 rfl (lv_at hl 1 rfl) ?_
    refine lv_dup hx hb dX8_readCommand_315 rfl ?_
    refine r_get (v := .int (nI (sp + 1))) hx hb hts hown hK hP fl_X8_127 0 rfl rfl dX8_readCommand_316 ?_
    refine lv_iconst (v := 1) hx hb dX8_readCommand_319 (by decide) ?_
    refine lv_isub hx hb dX8_readCommand_320 ?_
    refine top_eq (y := (nI sp)) (rc_m) ?_
    refine r_put hx hb hts hown hK hP hD hS fl_X8_127 fw_8_11 0 rfl rfl rfl (Nat.le_of_ble_eq_true rfl) dX8_readCommand_321 (fun H locs hP hD hS => ?_)
    replace hP : va_P G vwCl ([(h, .inr (8, moF b (upd (upd q 11 (nI sp)) 13 1))), ((b 1), .inl (kk 0, 120, .inl tx)), ((b 3), .inl (kk 0, 64, .inl ft)), ((b 7), .inl (kk 0, 6, .inl jb))]) H := hP
    replace hD : va_D A ([(h, .inr (8, moF b (upd (upd q 11 (nI sp)) 13 1))), ((b 1), .inl (kk 0, 120, .inl tx)), ((b 3), .inl (kk 0, 64, .inl ft)), ((b 7), .inl (kk 0, 6, .inl jb))]) := hD
    refine lv_iconst (v := 0) hx hb dX8_readCommand_324 (by decide) ?_
    exact fin_z hx hb hr hlocks hK (vP_eq (congrArg (fun z : Int32 × (Nat → Int32) × (Nat → Int32) × (Nat → Int32) => ([(h, .inr (8, moF b z.2.1)), ((b 1), .inl (kk 0, 120, .inl tx)), ((b 3), .inl (kk 0, 64, .inl z.2.2.1)), ((b 7), .inl (kk 0, 6, .inl z.2.2.2))] : va_W)) eS.symm) hP) (vD_eq (congrArg (fun z : Int32 × (Nat → Int32) × (Nat → Int32) × (Nat → Int32) => ([(h, .inr (8, moF b z.2.1)), ((b 1), .inl (kk 0, 120, .inl tx)), ((b 3), .inl (kk 0, 64, .inl z.2.2.1)), ((b 7), .inl (kk 0, 6, .inl z.2.2.2))] : va_W)) eS.symm) hD) hS (congrArg (fun z : Int32 × (Nat → Int32) × (Nat → Int32) × (Nat → Int32) => z.1) eS) rfl dX8_readCommand_325
  have eS := eS.trans (if_neg c_26_13)
  refine (Decidable.em ((tx sp) = 122)).elim (fun c_26_14 => ?_) (fun c_26_14 => ?_)
  · have eS := eS.trans (if_pos c_26_14)
    refine lv_tableIn (tgt := 177) hx hb dX8_readCommand_26 (by rw [c_26_14]; decide) (by rw [c_26_14]; decide) (by rw [c_26_14]; rfl) (by decide) ?_
    refine lv_aload_n hx hb dX8_readCommand_177 rfl (lv_at hl 1 rfl) ?_
    refine lv_iconst (v := 1) hx hb dX8_readCommand_178 (by decide) ?_
    refine lv_iconst (v := 0) hx hb dX8_readCommand_179 (by decide) ?_
    refine lv_iconst (v := 5) hx hb dX8_readCommand_180 (by decide) ?_
    refine k_goI (k_runV (rest := []) (As := [.int 1, .int 0, .int 5]) hx hb hml hown hts hK hP hD hS hA hE hl.1 (c_X8_figures l G kk h b (upd (upd q 11 (nI (sp + 1))) 13 1) tx sz (sp + 1) 1 0 5 (by first | assumption | exact ((pk_un (by decide)).trans ((pk_un (by decide)).trans hs))) hz (by first | assumption | exact ((pk_un (by decide)).trans pk_us)) (by first | assumption | omega) (by decide) (by decide) (by first | assumption | exact Or.inr pk_us) (by decide)) vl_X8_136 rfl rfl rfl ⟨Nat.le_of_ble_eq_true rfl, Nat.le_of_ble_eq_true rfl, rfl, rfl⟩ [0, 1] rfl rfl ⟨Nat.zero_le _, Nat.zero_le _⟩ rfl (Nat.le_of_ble_eq_true rfl) dX8_readCommand_181) hP hD hS hA [0, 1] rfl ads2 (fun H locs hP hD hS => ?_)
    replace hP : va_P G vwCl ([(h, .inr (8, moF b ((sX8_figures (upd (upd q 11 (nI (sp + 1))) 13 1) tx (sp + 1) 1 0 5).2))), ((b 1), .inl (kk 0, 120, .inl tx)), ((b 3), .inl (kk 0, 64, .inl ft)), ((b 7), .inl (kk 0, 6, .inl jb))]) H := hP
    replace hD : va_D A ([(h, .inr (8, moF b ((sX8_figures (upd (upd q 11 (nI (sp + 1))) 13 1) tx (sp + 1) 1 0 5).2))), ((b 1), .inl (kk 0, 120, .inl tx)), ((b 3), .inl (kk 0, 64, .inl ft)), ((b 7), .inl (kk 0, 6, .inl jb))]) := hD
    have eS : sX8_readCommand q tx ft jb sp n = sX8_readCommand_z_21 q tx ft jb sp n (sX8_figures (upd (upd q 11 (nI (sp + 1))) 13 1) tx (sp + 1) 1 0 5) := eS
    have hz_21 := fig_p (upd (upd q 11 (nI (sp + 1))) 13 1) tx (sp + 1) 1 0 5 (by first | assumption | exact ((pk_un (by decide)).trans ((pk_un (by decide)).trans hs))) hz (by first | assumption | exact ((pk_un (by decide)).trans pk_us)) (by first | assumption | omega) (by decide) (by decide) (by first | assumption | exact Or.inr pk_us) (by decide)
    generalize sX8_figures (upd (upd q 11 (nI (sp + 1))) 13 1) tx (sp + 1) 1 0 5 = z_21 at hP hD eS hz_21 ⊢
    obtain ⟨ae_7, be_7, ce_7, de_7, te_7, ue_7⟩ := fq_e hz hz_21.1
    refine lv_istore_n (lv' := [(3, .int z_21.1), (2, .int (tx sp)), (0, .ref h), (1, .ref (b 3))]) hx hb dX8_readCommand_184 rfl hl (by decide) rfl (fun ls hl => ?_)
    refine lv_aload_n hx hb dX8_readCommand_185 rfl (lv_at hl 2 rfl) ?_
    refine r_get (v := .int (z_21.2 13)) hx hb hts hown hK hP fl_X8_123 0 rfl rfl dX8_readCommand_186 ?_
    refine lv_if_eq (tgt := 235) hx hb dX8_readCommand_189 (by decide) (fun c_189 => ?_) (fun c_189 => ?_)
    · have eS := eS.trans (if_pos c_189)
      refine lv_iconst (v := 0) hx hb dX8_readCommand_235 (by decide) ?_
      exact fin_z hx hb hr hlocks hK (vP_eq (congrArg (fun z : Int32 × (Nat → Int32) × (Nat → Int32) × (Nat → Int32) => ([(h, .inr (8, moF b z.2.1)), ((b 1), .inl (kk 0, 120, .inl tx)), ((b 3), .inl (kk 0, 64, .inl z.2.2.1)), ((b 7), .inl (kk 0, 6, .inl z.2.2.2))] : va_W)) eS.symm) hP) (vD_eq (congrArg (fun z : Int32 × (Nat → Int32) × (Nat → Int32) × (Nat → Int32) => ([(h, .inr (8, moF b z.2.1)), ((b 1), .inl (kk 0, 120, .inl tx)), ((b 3), .inl (kk 0, 64, .inl z.2.2.1)), ((b 7), .inl (kk 0, 6, .inl z.2.2.2))] : va_W)) eS.symm) hD) hS (congrArg (fun z : Int32 × (Nat → Int32) × (Nat → Int32) × (Nat → Int32) => z.1) eS) rfl dX8_readCommand_236
    · have eS := eS.trans (if_neg c_189)
      refine lv_aload_n hx hb dX8_readCommand_192 rfl (lv_at hl 2 rfl) ?_
      refine lv_aload_n hx hb dX8_readCommand_193 rfl (lv_at hl 3 rfl) ?_
      refine lv_iload_n hx hb dX8_readCommand_194 rfl (lv_at hl 0 rfl) ?_
      refine k_goI (k_runS (rest := [.ref h]) (As := [.ref (b 3), .int z_21.1]) hx hb hml hown hts hK hP hD hS hA hE hl.1 (c_X8_isRoom l G kk (b 3) ft z_21.1 ) sl_X8_158 ⟨Nat.le_of_ble_eq_true rfl, Nat.le_of_ble_eq_true rfl, rfl, rfl⟩ [2] rfl rfl ⟨Nat.zero_le _, Nat.zero_le _⟩ rfl (Nat.le_of_ble_eq_true rfl) dX8_readCommand_195) hP hD hS hA [2] rfl ads1 (fun H locs hP hD hS => ?_)
      replace hP : va_P G vwCl ([(h, .inr (8, moF b z_21.2)), ((b 1), .inl (kk 0, 120, .inl tx)), ((b 3), .inl (kk 0, 64, .inl ft)), ((b 7), .inl (kk 0, 6, .inl jb))]) H := hP
      replace hD : va_D A ([(h, .inr (8, moF b z_21.2)), ((b 1), .inl (kk 0, 120, .inl tx)), ((b 3), .inl (kk 0, 64, .inl ft)), ((b 7), .inl (kk 0, 6, .inl jb))]) := hD
      refine lv_if_eq (tgt := 224) hx hb dX8_readCommand_198 (by decide) (fun c_198 => ?_) (fun c_198 => ?_)
      · have eS := eS.trans (if_pos c_198)
        refine lv_iconst (v := 0) hx hb dX8_readCommand_224 (by decide) ?_
        refine k_goI (k_runV (rest := []) (As := [.int 0]) hx hb hml hown hts hK hP hD hS hA hE hl.1 (c_X8_done l G kk h b z_21.2 0 ) vl_X8_154 rfl rfl rfl ⟨Nat.le_of_ble_eq_true rfl, Nat.le_of_ble_eq_true rfl, rfl, rfl⟩ [0] rfl rfl ⟨Nat.zero_le _, Nat.zero_le _⟩ rfl (Nat.le_of_ble_eq_true rfl) dX8_readCommand_225) hP hD hS hA [0] rfl ads1 (fun H locs hP hD hS => ?_)
        replace hP : va_P G vwCl ([(h, .inr (8, moF b ((sX8_done z_21.2 0).2))), ((b 1), .inl (kk 0, 120, .inl tx)), ((b 3), .inl (kk 0, 64, .inl ft)), ((b 7), .inl (kk 0, 6, .inl jb))]) H := hP
        replace hD : va_D A ([(h, .inr (8, moF b ((sX8_done z_21.2 0).2))), ((b 1), .inl (kk 0, 120, .inl tx)), ((b 3), .inl (kk 0, 64, .inl ft)), ((b 7), .inl (kk 0, 6, .inl jb))]) := hD
        have eS : sX8_readCommand q tx ft jb sp n = sX8_readCommand_z_22 q tx ft jb sp n z_21 (sX8_done z_21.2 0) := eS
        generalize sX8_done z_21.2 0 = z_22 at hP hD eS ⊢
        refine lv_if_eq (tgt := 235) hx hb dX8_readCommand_228 (by decide) (fun c_228 => ?_) (fun c_228 => ?_)
        · have eS := eS.trans (if_pos c_228)
          refine lv_iconst (v := 0) hx hb dX8_readCommand_235 (by decide) ?_
          exact fin_z hx hb hr hlocks hK (vP_eq (congrArg (fun z : Int32 × (Nat → Int32) × (Nat → Int32) × (Nat → Int32) => ([(h, .inr (8, moF b z.2.1)), ((b 1), .inl (kk 0, 120, .inl tx)), ((b 3), .inl (kk 0, 64, .inl z.2.2.1)), ((b 7), .inl (kk 0, 6, .inl z.2.2.2))] : va_W)) eS.symm) hP) (vD_eq (congrArg (fun z : Int32 × (Nat → Int32) × (Nat → Int32) × (Nat → Int32) => ([(h, .inr (8, moF b z.2.1)), ((b 1), .inl (kk 0, 120, .inl tx)), ((b 3), .inl (kk 0, 64, .inl z.2.2.1)), ((b 7), .inl (kk 0, 6, .inl z.2.2.2))] : va_W)) eS.symm) hD) hS (congrArg (fun z : Int32 × (Nat → Int32) × (Nat → Int32) × (Nat → Int32) => z.1) eS) rfl dX8_readCommand_236
        · have eS := eS.trans (if_neg c_228)
          refine lv_iconst (v := 1) hx hb dX8_readCommand_231 (by decide) ?_
          refine lv_goto (tgt := 236) hx hb dX8_readCommand_232 (by decide) ?_
          exact fin_z hx hb hr hlocks hK (vP_eq (congrArg (fun z : Int32 × (Nat → Int32) × (Nat → Int32) × (Nat → Int32) => ([(h, .inr (8, moF b z.2.1)), ((b 1), .inl (kk 0, 120, .inl tx)), ((b 3), .inl (kk 0, 64, .inl z.2.2.1)), ((b 7), .inl (kk 0, 6, .inl z.2.2.2))] : va_W)) eS.symm) hP) (vD_eq (congrArg (fun z : Int32 × (Nat → Int32) × (Nat → Int32) × (Nat → Int32) => ([(h, .inr (8, moF b z.2.1)), ((b 1), .inl (kk 0, 120, .inl tx)), ((b 3), .inl (kk 0, 64, .inl z.2.2.1)), ((b 7), .inl (kk 0, 6, .inl z.2.2.2))] : va_W)) eS.symm) hD) hS (congrArg (fun z : Int32 × (Nat → Int32) × (Nat → Int32) × (Nat → Int32) => z.1) eS) rfl dX8_readCommand_236
      · have eS := eS.trans (if_neg c_198)
        obtain ⟨hx1, hx2⟩ := isRoom_in hn h6 c_198
        refine lv_aload_n hx hb dX8_readCommand_201 rfl (lv_at hl 3 rfl) ?_
        refine lv_iload_n hx hb dX8_readCommand_202 rfl (lv_at hl 0 rfl) ?_
        refine top_eq (y := (nI z_21.1.toNatClampNeg)) (hx1) ?_
        refine lv_iload_n hx hb dX8_readCommand_203 rfl (lv_at hl 1 rfl) ?_
        refine lv_bipush (v := 111) hx hb dX8_readCommand_204 (by decide) ?_
        have J_32 : ∀ (x_23 : Int32) (ex_23 : x_23 = (if (tx sp) = 111 then 1 else 0)) (eS : sX8_readCommand q tx ft jb sp n = sX8_readCommand_j214 q tx ft jb sp n z_21 x_23) (H : Heap) (locs : List Loc) (ls : Array Slot) (hP : va_P G vwCl ([(h, .inr (8, moF b z_21.2)), ((b 1), .inl (kk 0, 120, .inl tx)), ((b 3), .inl (kk 0, 64, .inl ft)), ((b 7), .inl (kk 0, 6, .inl jb))]) H) (hD : va_D A ([(h, .inr (8, moF b z_21.2)), ((b 1), .inl (kk 0, 120, .inl tx)), ((b 3), .inl (kk 0, 64, .inl ft)), ((b 7), .inl (kk 0, 6, .inl jb))])) (hS : va_S A s.heap H locs) (hl : lv_has ls 6 [(3, .int z_21.1), (2, .int (tx sp)), (0, .ref h), (1, .ref (b 3))]), GO p l e (rmO 6 136) s m ([.ref h, .ref (b 3)] : List Value).toArray below meth c A (QI G kk ([(h, .inr (8, moF b ((sX8_readCommand q tx ft jb sp n).2.1))), ((b 1), .inl (kk 0, 120, .inl tx)), ((b 3), .inl (kk 0, 64, .inl ((sX8_readCommand q tx ft jb sp n).2.2.1))), ((b 7), .inl (kk 0, 6, .inl ((sX8_readCommand q tx ft jb sp n).2.2.2)))]) ((sX8_readCommand q tx ft jb sp n).1)) H locs (F0 m 214 ls [.int x_23, .int (nI z_21.1.toNatClampNeg), .ref (b 3), .ref h]) := by
          intro x_23 ex_23 eS H locs ls hP hD hS hl
          refine k_goI (k_runS (rest := [.ref h]) (As := [.ref (b 3), .int (nI z_21.1.toNatClampNeg), .int x_23]) hx hb hml hown hts hK hP hD hS hA hE hl.1 (c_X8_doorOn l G kk (b 3) ft n z_21.1.toNatClampNeg x_23 hn h6 (by omega)) sl_X8_161 ⟨Nat.le_of_ble_eq_true rfl, Nat.le_of_ble_eq_true rfl, rfl, rfl⟩ [2] rfl rfl ⟨Nat.zero_le _, Nat.zero_le _⟩ rfl (Nat.le_of_ble_eq_true rfl) dX8_readCommand_214) hP hD hS hA [2] rfl ads1 (fun H locs hP hD hS => ?_)
          replace hP : va_P G vwCl ([(h, .inr (8, moF b z_21.2)), ((b 1), .inl (kk 0, 120, .inl tx)), ((b 3), .inl (kk 0, 64, .inl ((sX8_doorOn ft n z_21.1.toNatClampNeg x_23).2))), ((b 7), .inl (kk 0, 6, .inl jb))]) H := hP
          replace hD : va_D A ([(h, .inr (8, moF b z_21.2)), ((b 1), .inl (kk 0, 120, .inl tx)), ((b 3), .inl (kk 0, 64, .inl ((sX8_doorOn ft n z_21.1.toNatClampNeg x_23).2))), ((b 7), .inl (kk 0, 6, .inl jb))]) := hD
          have eS : sX8_readCommand q tx ft jb sp n = sX8_readCommand_z_24 q tx ft jb sp n z_21 x_23 (sX8_doorOn ft n z_21.1.toNatClampNeg x_23) := eS
          have hz_24 := do_0 ft n z_21.1.toNatClampNeg x_23
          generalize sX8_doorOn ft n z_21.1.toNatClampNeg x_23 = z_24 at hP hD eS hz_24 ⊢
          have J_33 : ∀ (x_25 : Int32) (ex_25 : x_25 = (if z_24.1 < 0 then 0 else 1)) (eS : sX8_readCommand q tx ft jb sp n = sX8_readCommand_j225 q tx ft jb sp n z_21 x_23 z_24 x_25) (H : Heap) (locs : List Loc) (ls : Array Slot) (hP : va_P G vwCl ([(h, .inr (8, moF b z_21.2)), ((b 1), .inl (kk 0, 120, .inl tx)), ((b 3), .inl (kk 0, 64, .inl z_24.2)), ((b 7), .inl (kk 0, 6, .inl jb))]) H) (hD : va_D A ([(h, .inr (8, moF b z_21.2)), ((b 1), .inl (kk 0, 120, .inl tx)), ((b 3), .inl (kk 0, 64, .inl z_24.2)), ((b 7), .inl (kk 0, 6, .inl jb))])) (hS : va_S A s.heap H locs) (hl : lv_has ls 6 [(3, .int z_21.1), (2, .int (tx sp)), (0, .ref h), (1, .ref (b 3))]), GO p l e (rmO 6 136) s m ([.ref h, .ref (b 3)] : List Value).toArray below meth c A (QI G kk ([(h, .inr (8, moF b ((sX8_readCommand q tx ft jb sp n).2.1))), ((b 1), .inl (kk 0, 120, .inl tx)), ((b 3), .inl (kk 0, 64, .inl ((sX8_readCommand q tx ft jb sp n).2.2.1))), ((b 7), .inl (kk 0, 6, .inl ((sX8_readCommand q tx ft jb sp n).2.2.2)))]) ((sX8_readCommand q tx ft jb sp n).1)) H locs (F0 m 225 ls [.int x_25, .ref h]) := by
            intro x_25 ex_25 eS H locs ls hP hD hS hl
            refine k_goI (k_runV (rest := []) (As := [.int x_25]) hx hb hml hown hts hK hP hD hS hA hE hl.1 (c_X8_done l G kk h b z_21.2 x_25 ) vl_X8_154 rfl rfl rfl ⟨Nat.le_of_ble_eq_true rfl, Nat.le_of_ble_eq_true rfl, rfl, rfl⟩ [0] rfl rfl ⟨Nat.zero_le _, Nat.zero_le _⟩ rfl (Nat.le_of_ble_eq_true rfl) dX8_readCommand_225) hP hD hS hA [0] rfl ads1 (fun H locs hP hD hS => ?_)
            replace hP : va_P G vwCl ([(h, .inr (8, moF b ((sX8_done z_21.2 x_25).2))), ((b 1), .inl (kk 0, 120, .inl tx)), ((b 3), .inl (kk 0, 64, .inl z_24.2)), ((b 7), .inl (kk 0, 6, .inl jb))]) H := hP
            replace hD : va_D A ([(h, .inr (8, moF b ((sX8_done z_21.2 x_25).2))), ((b 1), .inl (kk 0, 120, .inl tx)), ((b 3), .inl (kk 0, 64, .inl z_24.2)), ((b 7), .inl (kk 0, 6, .inl jb))]) := hD
            have eS : sX8_readCommand q tx ft jb sp n = sX8_readCommand_z_26 q tx ft jb sp n z_21 x_23 z_24 x_25 (sX8_done z_21.2 x_25) := eS
            generalize sX8_done z_21.2 x_25 = z_26 at hP hD eS ⊢
            refine lv_if_eq (tgt := 235) hx hb dX8_readCommand_228 (by decide) (fun c_228 => ?_) (fun c_228 => ?_)
            · have eS := eS.trans (if_pos c_228)
              refine lv_iconst (v := 0) hx hb dX8_readCommand_235 (by decide) ?_
              exact fin_z hx hb hr hlocks hK (vP_eq (congrArg (fun z : Int32 × (Nat → Int32) × (Nat → Int32) × (Nat → Int32) => ([(h, .inr (8, moF b z.2.1)), ((b 1), .inl (kk 0, 120, .inl tx)), ((b 3), .inl (kk 0, 64, .inl z.2.2.1)), ((b 7), .inl (kk 0, 6, .inl z.2.2.2))] : va_W)) eS.symm) hP) (vD_eq (congrArg (fun z : Int32 × (Nat → Int32) × (Nat → Int32) × (Nat → Int32) => ([(h, .inr (8, moF b z.2.1)), ((b 1), .inl (kk 0, 120, .inl tx)), ((b 3), .inl (kk 0, 64, .inl z.2.2.1)), ((b 7), .inl (kk 0, 6, .inl z.2.2.2))] : va_W)) eS.symm) hD) hS (congrArg (fun z : Int32 × (Nat → Int32) × (Nat → Int32) × (Nat → Int32) => z.1) eS) rfl dX8_readCommand_236
            · have eS := eS.trans (if_neg c_228)
              refine lv_iconst (v := 1) hx hb dX8_readCommand_231 (by decide) ?_
              refine lv_goto (tgt := 236) hx hb dX8_readCommand_232 (by decide) ?_
              exact fin_z hx hb hr hlocks hK (vP_eq (congrArg (fun z : Int32 × (Nat → Int32) × (Nat → Int32) × (Nat → Int32) => ([(h, .inr (8, moF b z.2.1)), ((b 1), .inl (kk 0, 120, .inl tx)), ((b 3), .inl (kk 0, 64, .inl z.2.2.1)), ((b 7), .inl (kk 0, 6, .inl z.2.2.2))] : va_W)) eS.symm) hP) (vD_eq (congrArg (fun z : Int32 × (Nat → Int32) × (Nat → Int32) × (Nat → Int32) => ([(h, .inr (8, moF b z.2.1)), ((b 1), .inl (kk 0, 120, .inl tx)), ((b 3), .inl (kk 0, 64, .inl z.2.2.1)), ((b 7), .inl (kk 0, 6, .inl z.2.2.2))] : va_W)) eS.symm) hD) hS (congrArg (fun z : Int32 × (Nat → Int32) × (Nat → Int32) × (Nat → Int32) => z.1) eS) rfl dX8_readCommand_236
          refine lv_if_lt (tgt := 224) hx hb dX8_readCommand_217 (by decide) (fun c_217 => ?_) (fun c_217 => ?_)
          · refine lv_iconst (v := 0) hx hb dX8_readCommand_224 (by decide) ?_
            exact J_33 0 (if_pos c_217).symm (eS.trans (cg1 (sX8_readCommand_j225 q tx ft jb sp n z_21 x_23 z_24) (if_pos c_217))) _ _ ls hP hD hS (lv_sub hl [0, 1, 2, 3] rfl)
          · refine lv_iconst (v := 1) hx hb dX8_readCommand_220 (by decide) ?_
            refine lv_goto (tgt := 225) hx hb dX8_readCommand_221 (by decide) ?_
            exact J_33 1 (if_neg c_217).symm (eS.trans (cg1 (sX8_readCommand_j225 q tx ft jb sp n z_21 x_23 z_24) (if_neg c_217))) _ _ ls hP hD hS (lv_sub hl [0, 1, 2, 3] rfl)
        refine lv_icmp_ne (tgt := 213) hx hb dX8_readCommand_206 (by decide) (fun c_206 => ?_) (fun c_206 => ?_)
        · refine lv_iconst (v := 0) hx hb dX8_readCommand_213 (by decide) ?_
          exact J_32 0 (if_neg c_206).symm (eS.trans (cg1 (sX8_readCommand_j214 q tx ft jb sp n z_21) (if_neg c_206))) _ _ ls hP hD hS (lv_sub hl [0, 1, 2, 3] rfl)
        · refine lv_iconst (v := 1) hx hb dX8_readCommand_209 (by decide) ?_
          refine lv_goto (tgt := 214) hx hb dX8_readCommand_210 (by decide) ?_
          exact J_32 1 (if_pos c_206).symm (eS.trans (cg1 (sX8_readCommand_j214 q tx ft jb sp n z_21) (if_pos c_206))) _ _ ls hP hD hS (lv_sub hl [0, 1, 2, 3] rfl)
  have eS := eS.trans (if_neg c_26_14)
  refine lv_tableOut (tgt := 314) hx hb dX8_readCommand_26 (by have t0 := lv_neT (a := 108) c_26_0 (by decide); have t1 := lv_neT (a := 109) c_26_1 (by decide); have t2 := lv_neT (a := 110) c_26_2 (by decide); have t3 := lv_neT (a := 111) c_26_3 (by decide); have t4 := lv_neT (a := 112) c_26_4 (by decide); have t5 := lv_neT (a := 113) c_26_5 (by decide); have t6 := lv_neT (a := 114) c_26_6 (by decide); have t7 := lv_neT (a := 115) c_26_7 (by decide); have t8 := lv_neT (a := 116) c_26_8 (by decide); have t9 := lv_neT (a := 117) c_26_9 (by decide); have t10 := lv_neT (a := 118) c_26_10 (by decide); have t11 := lv_neT (a := 119) c_26_11 (by decide); have t12 := lv_neT (a := 120) c_26_12 (by decide); have t13 := lv_neT (a := 121) c_26_13 (by decide); have t14 := lv_neT (a := 122) c_26_14 (by decide); omega) (by decide) ?_
  refine lv_aload_n hx hb dX8_readCommand_314 rfl (lv_at hl 1 rfl) ?_
  refine lv_dup hx hb dX8_readCommand_315 rfl ?_
  refine r_get (v := .int (nI (sp + 1))) hx hb hts hown hK hP fl_X8_127 0 rfl rfl dX8_readCommand_316 ?_
  refine lv_iconst (v := 1) hx hb dX8_readCommand_319 (by decide) ?_
  refine lv_isub hx hb dX8_readCommand_320 ?_
  refine top_eq (y := (nI sp)) (rc_m) ?_
  refine r_put hx hb hts hown hK hP hD hS fl_X8_127 fw_8_11 0 rfl rfl rfl (Nat.le_of_ble_eq_true rfl) dX8_readCommand_321 (fun H locs hP hD hS => ?_)
  replace hP : va_P G vwCl ([(h, .inr (8, moF b (upd (upd q 11 (nI sp)) 13 1))), ((b 1), .inl (kk 0, 120, .inl tx)), ((b 3), .inl (kk 0, 64, .inl ft)), ((b 7), .inl (kk 0, 6, .inl jb))]) H := hP
  replace hD : va_D A ([(h, .inr (8, moF b (upd (upd q 11 (nI sp)) 13 1))), ((b 1), .inl (kk 0, 120, .inl tx)), ((b 3), .inl (kk 0, 64, .inl ft)), ((b 7), .inl (kk 0, 6, .inl jb))]) := hD
  refine lv_iconst (v := 0) hx hb dX8_readCommand_324 (by decide) ?_
  exact fin_z hx hb hr hlocks hK (vP_eq (congrArg (fun z : Int32 × (Nat → Int32) × (Nat → Int32) × (Nat → Int32) => ([(h, .inr (8, moF b z.2.1)), ((b 1), .inl (kk 0, 120, .inl tx)), ((b 3), .inl (kk 0, 64, .inl z.2.2.1)), ((b 7), .inl (kk 0, 6, .inl z.2.2.2))] : va_W)) eS.symm) hP) (vD_eq (congrArg (fun z : Int32 × (Nat → Int32) × (Nat → Int32) × (Nat → Int32) => ([(h, .inr (8, moF b z.2.1)), ((b 1), .inl (kk 0, 120, .inl tx)), ((b 3), .inl (kk 0, 64, .inl z.2.2.1)), ((b 7), .inl (kk 0, 6, .inl z.2.2.2))] : va_W)) eS.symm) hD) hS (congrArg (fun z : Int32 × (Nat → Int32) × (Nat → Int32) × (Nat → Int32) => z.1) eS) rfl dX8_readCommand_325
