/-! PURE: a command is read and done -/
def KP (z z' : Nat → Int32) : Prop := ∀ k, k ≠ 10 → k ≠ 11 → k ≠ 12 → k ≠ 13 → z' k = z k
def DONE (n : Nat) (ft z : Nat → Int32) (qc : Nat → Int32) (R : Int32 × (Nat → Int32) × (Nat → Int32) × (Nat → Int32)) : Prop :=
  ∀ (g u : Nat → Int32) (rv : Nat → Nat → Int32) (Bc : Nat), Bc ≤ 98000 → SM ft g u rv → OKs Bc n ft →
    (∃ n', SM R.2.2.1 (sX7_doCommand qc g u rv).2.1 (sX7_doCommand qc g u rv).2.2.1 (sX7_doCommand qc g u rv).2.2.2 ∧ OKs (Bc + 60) n' R.2.2.1) ∧ R.2.1 12 = z 12 + (if (sX7_doCommand qc g u rv).1 = 0 then 1 else 0)
def CST (sz p n : Nat) (z ft : Nat → Int32) (C : Int32 × (Nat → Int32)) (R : Int32 × (Nat → Int32) × (Nat → Int32) × (Nat → Int32)) : Prop :=
  KP z R.2.1 ∧ ((∃ e, p ≤ e ∧ e ≤ sz ∧ C.1 = 0 ∧ RDR C.2 e 1 ∧ R.1 = 0 ∧ R.2.1 11 = nI e) ∨
    (∃ e, p < e ∧ e ≤ sz ∧ C.1 = 1 ∧ RDR C.2 e 0 ∧ R.1 = 1 ∧ R.2.1 11 = nI e ∧ DONE n ft z C.2 R))
theorem done_e (q : Nat → Int32) (o : Int32) : sX8_done q o = (1, upd q 12 (q 12 + (if o = 0 then 1 else 0))) := rfl
section P21
variable {q0 tq sg tx z ft jb : Nat → Int32} {q2 : Int32} {sz p n : Nat}
theorem run_q (q jb f : Nat → Int32) (x : Int32) (n : Nat) : QK q (sX8_runOn q jb f x n).2.1 := by
  have hR : sX8_runOn q jb f x n = ((mit n x.toNatClampNeg (q, jb, f)).2.2 5 - f 5, (mit n x.toNatClampNeg (q, jb, f)).1, (mit n x.toNatClampNeg (q, jb, f)).2.1, (mit n x.toNatClampNeg (q, jb, f)).2.2) := rn_mit x.toNatClampNeg 0 q jb f
  rw [hR]
  exact mit_q (m := n) x.toNatClampNeg q jb f
theorem KP.k113 {z z1 z2 : Nat → Int32} (h : K113 z z1) (h2 : KP z1 z2) : KP z z2 := fun k k1 k2 k3 k4 => (h2 k k1 k2 k3 k4).trans (h k k2 k4)
/-- a command with one number -/
theorem one_c {q1 z1 : Nat → Int32} {dg LO HI : Nat} {Cn Rn C : Int32 × (Nat → Int32)} {R : Int32 × (Nat → Int32) × (Nat → Int32) × (Nat → Int32)} {c : Int32} (h3 : q1 3 = c) (hk : K113 z z1) (N : PR q1 z1 sz (p + 1) dg (WN LO HI) Cn Rn)
    (eC : C = if Cn.2 2 = 0 then (1, upd Cn.2 4 Cn.1) else (0, upd Cn.2 4 Cn.1)) (hbad : Rn.2 13 = 0 → R.1 = 0 ∧ R.2.1 = Rn.2)
    (hgood : ∀ V, LO ≤ V → V ≤ HI → Rn.2 13 = 1 → Rn.1 = nI V → R.1 = 1 ∧ R.2.1 11 = Rn.2 11 ∧ KP Rn.2 R.2.1 ∧ ∀ qc : Nat → Int32, qc 3 = c → qc 4 = nI V → DONE n ft Rn.2 qc R) : CST sz p n z ft C R := by
  obtain ⟨a1, a2, a3⟩ := N
  have a12 : Rn.2 12 = z 12 := (a2 12 (by decide) (by decide)).trans (hk 12 (by decide) (by decide))
  have kz : K113 z Rn.2 := fun k k1 k2 => (a2 k k1 k2).trans (hk k k1 k2)
  rcases a3 with ⟨e, e1, e2, e3, e4⟩ | ⟨e1, e2, e3, V, v1, v2, v3, v4⟩
  · obtain ⟨b1, b2⟩ := hbad e4.2.1
    rw [if_neg (show ¬ Cn.2 2 = 0 by rw [e3.2]; decide)] at eC
    rw [eC]
    refine ⟨KP.k113 kz (by rw [b2]; exact fun _ _ _ _ _ => rfl), Or.inl ⟨e, by omega, e2, rfl, ⟨?_, ?_⟩, b1, by rw [b2]; exact e4.1⟩⟩
    · show upd Cn.2 4 Cn.1 1 = nI e
      rw [pk_un (by decide)]; exact e3.1
    · show upd Cn.2 4 Cn.1 2 = 1
      rw [pk_un (by decide)]; exact e3.2
  · obtain ⟨b1, b2, b3, b4⟩ := hgood V v3 v4 e3.2.1 v2
    rw [if_pos e2.2] at eC
    rw [eC]
    have hd := b4 (upd Cn.2 4 Cn.1) (by rw [pk_un (by decide), a1 3 (by decide) (by decide)]; exact h3) (by rw [pk_us]; exact v1)
    refine ⟨KP.k113 kz b3, Or.inr ⟨p + 1 + dg, by omega, e1, rfl, ⟨?_, ?_⟩, b1, b2.trans e3.1, ?_⟩⟩
    · show upd Cn.2 4 Cn.1 1 = nI (p + 1 + dg)
      rw [pk_un (by decide)]; exact e2.1
    · show upd Cn.2 4 Cn.1 2 = 0
      rw [pk_un (by decide)]; exact e2.2
    · intro g u rv Bc q1 q2 q3
      obtain ⟨d1, d2⟩ := hd g u rv Bc q1 q2 q3
      exact ⟨d1, by rw [d2, a12]⟩
theorem d_l {Rn : Int32 × (Nat → Int32)} : Rn.2 13 = 0 → (sX8_readCommand_z_1 z tx ft jb p n Rn).1 = 0 ∧ (sX8_readCommand_z_1 z tx ft jb p n Rn).2.1 = Rn.2 := fun h => ⟨h, rfl⟩
theorem g_l {Rn : Int32 × (Nat → Int32)} {V : Nat} (hV : V ≤ 9999) (h13 : Rn.2 13 = 1) (hR : Rn.1 = nI V) : (sX8_readCommand_z_1 z tx ft jb p n Rn).1 = 1 ∧ (sX8_readCommand_z_1 z tx ft jb p n Rn).2.1 11 = Rn.2 11 ∧ KP Rn.2 (sX8_readCommand_z_1 z tx ft jb p n Rn).2.1 ∧ ∀ qc : Nat → Int32, qc 3 = 108 → qc 4 = nI V → DONE n ft Rn.2 qc (sX8_readCommand_z_1 z tx ft jb p n Rn) := by
  refine ⟨h13, rfl, fun _ _ _ _ _ => rfl, fun qc c3 c4 g u rv Bc hB sr ok => ?_⟩
  have eR : sX8_readCommand_z_1 z tx ft jb p n Rn = (Rn.2 13, Rn.2, upd ft 10 (nI V), jb) := by
    unfold sX8_readCommand_z_1 sX8_readCommand_j308
    rw [if_neg (show ¬ Rn.2 13 = 0 by rw [h13]; decide), hR]
  have ev : (nI V).toInt = (V : Int) := nI_i (by omega)
  have e0 : slo 0 = 0 := rfl
  have e9 : shi 0 = 9999 := rfl
  have hw : (0 : Int) ≤ (0 : Int32).toInt ∧ (0 : Int32).toInt ≤ 5 := ⟨by decide, by decide⟩
  have h1 : slo 0 ≤ (nI V).toInt := by rw [e0, ev]; omega
  have h2 : (nI V).toInt ≤ shi 0 := by rw [e9, ev]; omega
  obtain ⟨s1, s2⟩ := set_ok sr ok hw h1 h2
  have hT : sX5_changeSetting g u rv 0 (nI V) = (1, sX3_change u 0 (nI V)) := if_neg (fun z => (all_c 0 (nI V)).mp z ⟨hw, h1, h2⟩)
  have eD : sX7_doCommand qc g u rv = (1, g, sX3_change u 0 (nI V), rv) := by
    unfold sX7_doCommand
    rw [c3, if_neg (by decide), if_neg (by decide), if_neg (by decide), if_neg (by decide), c4, hT]
    rfl
  rw [eR, eD]
  exact ⟨⟨n, s1, s2.mono (Nat.le_add_right _ _)⟩, (Int32.add_zero _).symm⟩
theorem d_m {Rn : Int32 × (Nat → Int32)} : Rn.2 13 = 0 → (sX8_readCommand_z_3 z tx ft jb p n Rn).1 = 0 ∧ (sX8_readCommand_z_3 z tx ft jb p n Rn).2.1 = Rn.2 := fun h => by
  unfold sX8_readCommand_z_3
  rw [if_pos h]
  exact ⟨rfl, rfl⟩
theorem m_e {Rn : Int32 × (Nat → Int32)} (h13 : Rn.2 13 = 1) : sX8_readCommand_z_3 z tx ft jb p n Rn = (1, upd (sX8_runOn Rn.2 jb ft Rn.1 n).2.1 12 ((sX8_runOn Rn.2 jb ft Rn.1 n).2.1 12 + (if (if (sX8_runOn Rn.2 jb ft Rn.1 n).1 < 0 then 0 else 1 : Int32) = 0 then 1 else 0)), (sX8_runOn Rn.2 jb ft Rn.1 n).2.2.2, (sX8_runOn Rn.2 jb ft Rn.1 n).2.2.1) := by
  unfold sX8_readCommand_z_3
  rw [if_neg (show ¬ Rn.2 13 = 0 by rw [h13]; decide)]
  generalize sX8_runOn Rn.2 jb ft Rn.1 n = zr
  unfold sX8_readCommand_z_4 sX8_readCommand_j268 sX8_readCommand_z_6
  rw [done_e, if_neg (show ¬ (1 : Int32) = 0 by decide)]
theorem g_m {Rn : Int32 × (Nat → Int32)} {V : Nat} (hV1 : 1 ≤ V) (hV : V ≤ 60) (h13 : Rn.2 13 = 1) (hR : Rn.1 = nI V) : (sX8_readCommand_z_3 z tx ft jb p n Rn).1 = 1 ∧ (sX8_readCommand_z_3 z tx ft jb p n Rn).2.1 11 = Rn.2 11 ∧ KP Rn.2 (sX8_readCommand_z_3 z tx ft jb p n Rn).2.1 ∧ ∀ qc : Nat → Int32, qc 3 = 109 → qc 4 = nI V → DONE n ft Rn.2 qc (sX8_readCommand_z_3 z tx ft jb p n Rn) := by
  have hq := run_q Rn.2 jb ft Rn.1 n
  rw [m_e h13]
  refine ⟨rfl, ?_, fun k k1 k2 k3 k4 => ?_, fun qc c3 c4 g u rv Bc hB sr ok => ?_⟩
  · dsimp only
    rw [pk_un (by decide)]; exact hq 11 (by decide)
  · dsimp only
    rw [pk_un k3]; exact hq k k1
  · have hin : ¬ sX8_in (nI V).toInt64 1 60 = 0 := fun z => (in_nI (a := 1) (b := 60) (by omega) rfl rfl).mp z ⟨hV1, hV⟩
    rw [hR] at hq ⊢
    obtain ⟨p1, p2, p3, p4, p5⟩ := pass_st (q := Rn.2) (jb := jb) (by omega) sr ok hin
    have eD : sX7_doCommand qc g u rv = (1, (sX5_passMinutes g u rv (nI V)).2.1, u, (sX5_passMinutes g u rv (nI V)).2.2) := by
      unfold sX7_doCommand
      rw [if_pos c3, c4]
      unfold sX7_doCommand_z_1
      rw [p1]
    rw [eD, if_neg p5]
    refine ⟨⟨n, p2, p3⟩, ?_⟩
    dsimp only
    rw [pk_us, hq 12 (by decide)]
theorem o_e {Rn : Int32 × (Nat → Int32)} (h13 : Rn.2 13 = 1) : sX8_readCommand_z_7 z tx ft jb p n Rn = (if (sX8_isRoom ft Rn.1) = 0 then (1, upd Rn.2 12 (Rn.2 12 + 1), ft, jb) else (1, upd Rn.2 12 (Rn.2 12 + (if (if (sX8_doorOn ft n Rn.1.toNatClampNeg (if (tx p) = 111 then 1 else 0)).1 < 0 then 0 else 1 : Int32) = 0 then 1 else 0)), (sX8_doorOn ft n Rn.1.toNatClampNeg (if (tx p) = 111 then 1 else 0)).2, jb)) := by
  unfold sX8_readCommand_z_7
  rw [if_neg (show ¬ Rn.2 13 = 0 by rw [h13]; decide)]
  unfold sX8_readCommand_z_8 sX8_readCommand_j214'
  generalize sX8_doorOn ft n Rn.1.toNatClampNeg (if (tx p) = 111 then 1 else 0) = zd
  unfold sX8_readCommand_z_10 sX8_readCommand_j225' sX8_readCommand_z_12
  rw [done_e, done_e, if_neg (show ¬ (1 : Int32) = 0 by decide), if_neg (show ¬ (1 : Int32) = 0 by decide)]
  rfl
theorem z_e {Rn : Int32 × (Nat → Int32)} (h13 : Rn.2 13 = 1) : sX8_readCommand_z_21 z tx ft jb p n Rn = (if (sX8_isRoom ft Rn.1) = 0 then (1, upd Rn.2 12 (Rn.2 12 + 1), ft, jb) else (1, upd Rn.2 12 (Rn.2 12 + (if (if (sX8_doorOn ft n Rn.1.toNatClampNeg (if (tx p) = 111 then 1 else 0)).1 < 0 then 0 else 1 : Int32) = 0 then 1 else 0)), (sX8_doorOn ft n Rn.1.toNatClampNeg (if (tx p) = 111 then 1 else 0)).2, jb)) := by
  unfold sX8_readCommand_z_21
  rw [if_neg (show ¬ Rn.2 13 = 0 by rw [h13]; decide)]
  unfold sX8_readCommand_z_22 sX8_readCommand_j214
  generalize sX8_doorOn ft n Rn.1.toNatClampNeg (if (tx p) = 111 then 1 else 0) = zd
  unfold sX8_readCommand_z_24 sX8_readCommand_j225 sX8_readCommand_z_26
  rw [done_e, done_e, if_neg (show ¬ (1 : Int32) = 0 by decide), if_neg (show ¬ (1 : Int32) = 0 by decide)]
  rfl
theorem d_o {Rn : Int32 × (Nat → Int32)} : Rn.2 13 = 0 → (sX8_readCommand_z_7 z tx ft jb p n Rn).1 = 0 ∧ (sX8_readCommand_z_7 z tx ft jb p n Rn).2.1 = Rn.2 := fun h => by
  unfold sX8_readCommand_z_7
  rw [if_pos h]
  exact ⟨rfl, rfl⟩
theorem d_z {Rn : Int32 × (Nat → Int32)} : Rn.2 13 = 0 → (sX8_readCommand_z_21 z tx ft jb p n Rn).1 = 0 ∧ (sX8_readCommand_z_21 z tx ft jb p n Rn).2.1 = Rn.2 := fun h => by
  unfold sX8_readCommand_z_21
  rw [if_pos h]
  exact ⟨rfl, rfl⟩
theorem g_oz {Rn : Int32 × (Nat → Int32)} {V : Nat} {c y : Int32} (hV : V ≤ 5) (hR : Rn.1 = nI V) (hy : zb y) (hD : ∀ qc : Nat → Int32, qc 3 = c → ∀ g u rv, sX7_doCommand qc g u rv = ((sX5_moveDoor g u rv (qc 4) y).1, g, u, (sX5_moveDoor g u rv (qc 4) y).2)) {R : Int32 × (Nat → Int32) × (Nat → Int32) × (Nat → Int32)}
    (eR : R = (if (sX8_isRoom ft Rn.1) = 0 then (1, upd Rn.2 12 (Rn.2 12 + 1), ft, jb) else (1, upd Rn.2 12 (Rn.2 12 + (if (if (sX8_doorOn ft n Rn.1.toNatClampNeg y).1 < 0 then 0 else 1 : Int32) = 0 then 1 else 0)), (sX8_doorOn ft n Rn.1.toNatClampNeg y).2, jb))) :
    R.1 = 1 ∧ R.2.1 11 = Rn.2 11 ∧ KP Rn.2 R.2.1 ∧ ∀ qc : Nat → Int32, qc 3 = c → qc 4 = nI V → DONE n ft Rn.2 qc R := by
  rw [hR] at eR
  have hd : V < 10 := by omega
  by_cases h : sX8_isRoom ft (nI V) = 0
  · rw [if_pos h] at eR
    rw [eR]
    refine ⟨rfl, by dsimp only; rw [pk_un (by decide)], fun k k1 k2 k3 k4 => by dsimp only; rw [pk_un k3], fun qc c3 c4 g u rv Bc hB sr ok => ?_⟩
    have hM : sX5_moveDoor g u rv (nI V) y = (0, rv) := oe_n (roomAt_n sr ok h)
    rw [hD qc c3, c4, hM]
    refine ⟨⟨n, sr, ok.mono (Nat.le_add_right _ _)⟩, ?_⟩
    dsimp only
    rw [pk_us, if_pos (show (0 : Int32) = 0 from rfl)]
  · rw [if_neg h, tn_d hd] at eR
    rw [eR]
    refine ⟨rfl, by dsimp only; rw [pk_un (by decide)], fun k k1 k2 k3 k4 => by dsimp only; rw [pk_un k3], fun qc c3 c4 g u rv Bc hB sr ok => ?_⟩
    have hr : V < n := Classical.byContradiction (fun z => h ((isr_d ok hd).mpr z))
    have hM : sX5_moveDoor g u rv (nI V) y = (1, updR rv V (upd (rv V) 5 y)) := oe_s (at_s sr ok hd hr)
    obtain ⟨s1, s2, k, k1, k2⟩ := door_st sr ok hr hy
    rw [hD qc c3, c4, hM, k2]
    refine ⟨⟨n, s1, s2.mono (Nat.le_add_right _ _)⟩, ?_⟩
    show upd Rn.2 12 (Rn.2 12 + (if (if nI k < 0 then 0 else 1 : Int32) = 0 then 1 else 0)) 12 = _
    rw [pk_us, if_neg (show ¬ nI k < 0 from nI_lt_f (a := k) (b := 0) (Nat.zero_le _) (by omega))]
end P21
