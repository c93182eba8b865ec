theorem ma_q0 {q jb f : Nat → Int32} {n : Nat} : ∀ (d i : Nat) (q1 jb1 : Nat → Int32) (k : Nat), k ≠ 10 → (lp_X8_must_2 q jb f n d i q1 jb1).1 k = q1 k
  | 0, _, _, _, _, _ => rfl
  | d + 1, i, q1, jb1, k, hk => (ma_q0 d (i + 1) _ _ k hk).trans (pk_un hk)
theorem ma_q {q jb f : Nat → Int32} {n k : Nat} (hk : k ≠ 10) : (sX8_must q jb f n).1 k = q k := ma_q0 n 0 q jb k hk
theorem fi_149 {q jb f : Nat → Int32} {n : Nat} {z : (Nat → Int32) × (Nat → Int32)} {q2 jb2 q3 jb3 : Nat → Int32} : ∀ (d i : Nat) (jb1 : Nat → Int32), (lp_X8_find_149 q jb f n z q2 jb2 q3 jb3 d i jb1).1 = q3
  | 0, _, _ => rfl
  | d + 1, i, jb1 => fi_149 d (i + 1) _
theorem fi_86 {q jb f : Nat → Int32} {n : Nat} {z : (Nat → Int32) × (Nat → Int32)} {q2 jb2 : Nat → Int32} : ∀ (d : Nat) (w : Option Nat) (q1 jb1 : Nat → Int32) (k : Nat), k ≠ 10 → (lp_X8_find_86 q jb f n z q2 jb2 d w q1 jb1).1 k = q1 k
  | 0, _, _, _, _, _ => rfl
  | d + 1, none, q1, jb1, k, hk => congrFun (fi_149 n 0 jb1) k
  | d + 1, some j, q1, jb1, k, hk => (fi_86 d _ _ _ k hk).trans (pk_un hk)
theorem fi_16 {q jb f : Nat → Int32} {n : Nat} {z : (Nat → Int32) × (Nat → Int32)} : ∀ (d : Nat) (w : Option Nat) (q1 jb1 : Nat → Int32) (k : Nat), k ≠ 10 → (lp_X8_find_16 q jb f n z d w q1 jb1).1 k = q1 k
  | 0, _, _, _, _, _ => rfl
  | d + 1, none, q1, jb1, k, hk => fi_86 7 _ q1 jb1 k hk
  | d + 1, some j, q1, jb1, k, hk => (fi_16 d _ _ _ k hk).trans (pk_un hk)
theorem fi_q {q jb f : Nat → Int32} {n k : Nat} (hk : k ≠ 10) : (sX8_find q jb f n).1 k = q k := by
  show (sX8_find_z_1 q jb f n (sX8_must (upd q 10 0) jb f n)).1 k = q k
  exact ((fi_16 7 _ _ _ k hk).trans (ma_q hk)).trans (pk_un hk)
theorem mn_q0 {q jb f : Nat → Int32} {n : Nat} {z : (Nat → Int32) × (Nat → Int32)} {z2 : Nat → Int32} : ∀ (d i : Nat) (f1 : Nat → Int32), (lp_X8_minuteOn_15 q jb f n z z2 d i f1).1 = z.1
  | 0, _, _ => rfl
  | d + 1, i, f1 => mn_q0 d (i + 1) _
theorem mn_q {q jb f : Nat → Int32} {n k : Nat} (hk : k ≠ 10) : (sX8_minuteOn q jb f n).1 k = q k := (congrFun (mn_q0 n 0 _) k).trans (fi_q hk)
theorem rn_q0 {q jb f : Nat → Int32} {m0 : Int32} {n k : Nat} (hk : k ≠ 10) : ∀ (d i : Nat) (q1 jb1 f1 : Nat → Int32), (lp_X8_runOn_7 q jb f m0 n d i q1 jb1 f1).2.1 k = q1 k
  | 0, _, _, _, _ => rfl
  | d + 1, i, q1, jb1, f1 => (rn_q0 hk d (i + 1) _ _ _).trans (mn_q hk)
theorem rn_q {q jb f : Nat → Int32} {m0 : Int32} {n k : Nat} (hk : k ≠ 10) : (sX8_runOn q jb f m0 n).2.1 k = q k := rn_q0 hk _ 0 q jb f
theorem dn_q {q : Nat → Int32} {x : Int32} {k : Nat} (hk : k ≠ 12) : (sX8_done q x).2 k = q k := pk_un hk
/-- what a command of the text does -/
def RQ (q : Nat → Int32) (sz sp : Nat) (z : Int32 × (Nat → Int32) × (Nat → Int32) × (Nat → Int32)) : Prop := (∃ e, z.2.1 11 = nI e ∧ sp ≤ e ∧ e ≤ sz ∧ (¬ z.1 = 0 → sp < e)) ∧ (∃ n2, z.2.2.1 0 = nI n2 ∧ n2 ≤ 6) ∧ (∀ k, k < 10 → z.2.1 k = q k)
theorem rq_i {q qq q3 f3 jb : Nat → Int32} {sz sp : Nat} {r a b : Int32} (h : FQ (upd (upd q 11 a) 13 b) sz (sp + 1) qq) (h2 : ∀ k, k ≠ 10 → k ≠ 12 → q3 k = qq k) (h3 : ∃ n2, f3 0 = nI n2 ∧ n2 ≤ 6) : RQ q sz sp (r, q3, f3, jb) := by
  obtain ⟨e, a1, a2, a3, a4, a5, a6⟩ := h
  exact ⟨⟨e, (h2 11 (by decide) (by decide)).trans a1, by omega, a3, fun _ => by omega⟩, h3, fun k hk => ((h2 k (by omega) (by omega)).trans (a6 k (by omega) (by omega))).trans (uu_k k (by omega) (by omega))⟩
theorem rl_1 {q tx ft jb : Nat → Int32} {sz sp n : Nat} {a b : Int32} {z : Int32 × (Nat → Int32)} (h : FQ (upd (upd q 11 a) 13 b) sz (sp + 1) z.2) (hn : ft 0 = nI n) (h6 : n ≤ 6) : RQ q sz sp (sX8_readCommand_z_1 q tx ft jb sp n z) :=
  rq_i h (fun _ _ _ => rfl) ⟨n, (pk_un (by decide)).trans hn, h6⟩
theorem rl_3 {q tx ft jb : Nat → Int32} {sz sp n : Nat} {a b : Int32} {z : Int32 × (Nat → Int32)} (h : FQ (upd (upd q 11 a) 13 b) sz (sp + 1) z.2) (hn : ft 0 = nI n) (h6 : n ≤ 6) : RQ q sz sp (sX8_readCommand_z_3 q tx ft jb sp n z) := by
  refine zdif (P := RQ q sz sp) (fun _ => rq_i h (fun _ _ _ => rfl) ⟨n, hn, h6⟩) (fun _ => ?_)
  exact zif (P := RQ q sz sp) (rq_i h (fun k h1 h2 => (dn_q h2).trans (rn_q h1)) ⟨n, (rn_0 h6 _ _ _ _).trans hn, h6⟩) (rq_i h (fun k h1 h2 => (dn_q h2).trans (rn_q h1)) ⟨n, (rn_0 h6 _ _ _ _).trans hn, h6⟩)
theorem rl_7 {q tx ft jb : Nat → Int32} {sz sp n : Nat} {a b : Int32} {z : Int32 × (Nat → Int32)} (h : FQ (upd (upd q 11 a) 13 b) sz (sp + 1) z.2) (hn : ft 0 = nI n) (h6 : n ≤ 6) : RQ q sz sp (sX8_readCommand_z_7 q tx ft jb sp n z) := by
  refine zdif (P := RQ q sz sp) (fun _ => rq_i h (fun _ _ _ => rfl) ⟨n, hn, h6⟩) (fun _ => ?_)
  refine zdif (P := RQ q sz sp) (fun _ => ?_) (fun _ => ?_)
  · exact zif (P := RQ q sz sp) (rq_i h (fun k h1 h2 => dn_q h2) ⟨n, hn, h6⟩) (rq_i h (fun k h1 h2 => dn_q h2) ⟨n, hn, h6⟩)
  · exact zif (P := RQ q sz sp) (rq_i h (fun k h1 h2 => dn_q h2) ⟨n, (do_0 _ _ _ _).trans hn, h6⟩) (rq_i h (fun k h1 h2 => dn_q h2) ⟨n, (do_0 _ _ _ _).trans hn, h6⟩)
theorem rl_21 {q tx ft jb : Nat → Int32} {sz sp n : Nat} {a b : Int32} {z : Int32 × (Nat → Int32)} (h : FQ (upd (upd q 11 a) 13 b) sz (sp + 1) z.2) (hn : ft 0 = nI n) (h6 : n ≤ 6) : RQ q sz sp (sX8_readCommand_z_21 q tx ft jb sp n z) := by
  refine zdif (P := RQ q sz sp) (fun _ => rq_i h (fun _ _ _ => rfl) ⟨n, hn, h6⟩) (fun _ => ?_)
  refine zdif (P := RQ q sz sp) (fun _ => ?_) (fun _ => ?_)
  · exact zif (P := RQ q sz sp) (rq_i h (fun k h1 h2 => dn_q h2) ⟨n, hn, h6⟩) (rq_i h (fun k h1 h2 => dn_q h2) ⟨n, hn, h6⟩)
  · exact zif (P := RQ q sz sp) (rq_i h (fun k h1 h2 => dn_q h2) ⟨n, (do_0 _ _ _ _).trans hn, h6⟩) (rq_i h (fun k h1 h2 => dn_q h2) ⟨n, (do_0 _ _ _ _).trans hn, h6⟩)
theorem ad_00 {f : Nat → Int32} {n : Nat} {x y z : Int32} : ∀ (d i : Nat) (f1 : Nat → Int32), (lp_X8_addOn_8 f n x y z d i f1).2 0 = f1 0 + 1
  | 0, i, f1 => by
    show upd (sX8_lay (sX8_lay (sX8_lay (sX8_lay f1 n 0 x) n 1 y) n 2 z) n 3 y) 0 (sX8_lay (sX8_lay (sX8_lay (sX8_lay f1 n 0 x) n 1 y) n 2 z) n 3 y 0 + 1) 0 = f1 0 + 1
    rw [pk_us, lay_0, lay_0, lay_0, lay_0]
  | d + 1, i, f1 => (ad_00 d (i + 1) (sX8_lay f1 n i 0)).trans (by rw [lay_0])
theorem ad_0 {f : Nat → Int32} {n : Nat} {x y z : Int32} (hn : f 0 = nI n) : (sX8_addOn f n x y z).2 0 = nI (n + 1) := by
  have h : (sX8_addOn f n x y z).2 0 = f 0 + 1 := ad_00 8 0 f
  rw [h, hn]
  exact nI_add n 1
theorem rl_15 {q tx ft jb : Nat → Int32} {sz sp n : Nat} {a b : Int32} {z13 z14 z : Int32 × (Nat → Int32)} (h : FQ (upd (upd q 11 a) 13 b) sz (sp + 1) z.2) (hn : ft 0 = nI n) (h6 : n ≤ 6) : RQ q sz sp (sX8_readCommand_z_15 q tx ft jb sp n z13 z14 z) := by
  refine zdif (P := RQ q sz sp) (fun _ => rq_i h (fun _ _ _ => rfl) ⟨n, hn, h6⟩) (fun _ => ?_)
  refine zdif (P := RQ q sz sp) (fun _ => ?_) (fun _ => ?_)
  · exact zif (P := RQ q sz sp) (rq_i h (fun k h1 h2 => dn_q h2) ⟨n, hn, h6⟩) (rq_i h (fun k h1 h2 => dn_q h2) ⟨n, hn, h6⟩)
  refine zdif (P := RQ q sz sp) (fun _ => ?_) (fun c => ?_)
  · exact zif (P := RQ q sz sp) (rq_i h (fun k h1 h2 => dn_q h2) ⟨n, hn, h6⟩) (rq_i h (fun k h1 h2 => dn_q h2) ⟨n, hn, h6⟩)
  · have h5 := lt6 hn h6 c
    exact zif (P := RQ q sz sp) (rq_i h (fun k h1 h2 => dn_q h2) ⟨n + 1, ad_0 hn, h5⟩) (rq_i h (fun k h1 h2 => dn_q h2) ⟨n + 1, ad_0 hn, h5⟩)
theorem fq_t {q z : Nat → Int32} {tx : Nat → Int32} {sz sp : Nat} (hz : sz ≤ 120) (h : FQ q sz sp z) : FQ q sz sp (sX8_temperature z tx (z 11).toNatClampNeg).2 := by
  obtain ⟨a1, a2, a3, a4, a5, a6⟩ := fq_e hz h
  exact fq_up (te_p z tx _ a4 hz a1 a3 a5) a6 a2
theorem rl_13 {q tx ft jb : Nat → Int32} {sz sp n : Nat} {a b : Int32} {z : Int32 × (Nat → Int32)} (hz : sz ≤ 120) (h : FQ (upd (upd q 11 a) 13 b) sz (sp + 1) z.2) (hn : ft 0 = nI n) (h6 : n ≤ 6) : RQ q sz sp (sX8_readCommand_z_13 q tx ft jb sp n z) := by
  show RQ q sz sp (sX8_readCommand_z_15 q tx ft jb sp n z (sX8_temperature z.2 tx ((z.2 11).toNatClampNeg)) (sX8_temperature (sX8_temperature z.2 tx ((z.2 11).toNatClampNeg)).2 tx (((sX8_temperature z.2 tx ((z.2 11).toNatClampNeg)).2 11).toNatClampNeg)))
  exact rl_15 (fq_t hz (fq_t hz h)) hn h6
theorem rc_d {q ft jb : Nat → Int32} {sz sp n : Nat} (hlt : sp < sz) (hn : ft 0 = nI n) (h6 : n ≤ 6) : RQ q sz sp (0, upd (upd q 11 (nI sp)) 13 1, ft, jb) :=
  ⟨⟨sp, (show upd (upd q 11 (nI sp)) 13 1 11 = nI sp from (pk_un (by decide)).trans pk_us), Nat.le_refl _, Nat.le_of_lt hlt, fun h => absurd rfl h⟩, ⟨n, hn, h6⟩, fun k hk => uu_k k (by omega) (by omega)⟩
theorem rc_p {sz : Nat} (q tx ft jb : Nat → Int32) (sp n : Nat) (hs : q 2 = nI sz) (hz : sz ≤ 120) (hp : q 11 = nI sp) (hlt : sp < sz) (hn : ft 0 = nI n) (h6 : n ≤ 6) : RQ q sz sp (sX8_readCommand q tx ft jb sp n) := by
  have fg : ∀ (dg : Nat) (lo hi : Int32), 1 ≤ dg → dg ≤ 4 → hi.toInt ≤ 9999 → FQ (upd (upd q 11 (nI (sp + 1))) 13 1) sz (sp + 1) (sX8_figures (upd (upd q 11 (nI (sp + 1))) 13 1) tx (sp + 1) dg lo hi).2 := fun dg lo hi h1 h2 h3 =>
    (fig_p _ tx (sp + 1) dg lo hi ((pk_un (by decide)).trans ((pk_un (by decide)).trans hs)) hz ((pk_un (by decide)).trans pk_us) hlt h1 h2 (Or.inr pk_us) h3).1
  unfold sX8_readCommand
  by_cases c108 : tx sp = 108
  · rw [if_pos c108]
    exact rl_1 (fg 4 0 9999 (by decide) (by decide) (by decide)) hn h6
  rw [if_neg c108]
  by_cases c109 : tx sp = 109
  · rw [if_pos c109]
    exact rl_3 (fg 2 1 60 (by decide) (by decide) (by decide)) hn h6
  rw [if_neg c109]
  by_cases c110 : tx sp = 110
  · rw [if_pos c110]
    exact rc_d hlt hn h6
  rw [if_neg c110]
  by_cases c111 : tx sp = 111
  · rw [if_pos c111]
    exact rl_7 (fg 1 0 5 (by decide) (by decide) (by decide)) hn h6
  rw [if_neg c111]
  by_cases c112 : tx sp = 112
  · rw [if_pos c112]
    exact rc_d hlt hn h6
  rw [if_neg c112]
  by_cases c113 : tx sp = 113
  · rw [if_pos c113]
    exact rc_d hlt hn h6
  rw [if_neg c113]
  by_cases c114 : tx sp = 114
  · rw [if_pos c114]
    exact rl_13 hz (fg 2 1 50 (by decide) (by decide) (by decide)) hn h6
  rw [if_neg c114]
  by_cases c115 : tx sp = 115
  · rw [if_pos c115]
    exact rc_d hlt hn h6
  rw [if_neg c115]
  by_cases c116 : tx sp = 116
  · rw [if_pos c116]
    exact rc_d hlt hn h6
  rw [if_neg c116]
  by_cases c117 : tx sp = 117
  · rw [if_pos c117]
    exact rc_d hlt hn h6
  rw [if_neg c117]
  by_cases c118 : tx sp = 118
  · rw [if_pos c118]
    exact rc_d hlt hn h6
  rw [if_neg c118]
  by_cases c119 : tx sp = 119
  · rw [if_pos c119]
    exact rc_d hlt hn h6
  rw [if_neg c119]
  by_cases c120 : tx sp = 120
  · rw [if_pos c120]
    exact rc_d hlt hn h6
  rw [if_neg c120]
  by_cases c121 : tx sp = 121
  · rw [if_pos c121]
    exact rc_d hlt hn h6
  rw [if_neg c121]
  by_cases c122 : tx sp = 122
  · rw [if_pos c122]
    exact rl_21 (fg 1 0 5 (by decide) (by decide) (by decide)) hn h6
  rw [if_neg c122]
  exact rc_d hlt hn h6
theorem clr_00 {f : Nat → Int32} : ∀ (d i : Nat) (f1 : Nat → Int32), (0 < i → f1 0 = 0) → (0 < i ∨ 0 < d) → lp_X8_clear_2 f d i f1 0 = 0
  | 0, i, f1, h1, h2 => by
    show upd (upd (upd (upd (upd f1 10 600) 12 10) 13 12) 14 30) 15 6 0 = 0
    rw [pk_un (by decide), pk_un (by decide), pk_un (by decide), pk_un (by decide), pk_un (by decide)]
    exact h1 (by omega)
  | d + 1, i, f1, h1, h2 => by
    refine clr_00 d (i + 1) (upd f1 i 0) (fun _ => ?_) (Or.inl (by omega))
    by_cases h : i = 0
    · subst h; exact pk_us
    · exact (pk_un (by omega)).trans (h1 (by omega))
theorem clr_0 (f : Nat → Int32) : sX8_clear f 0 = nI 0 := clr_00 64 0 f (fun h => absurd h (Nat.lt_irrefl 0)) (Or.inr (by decide))
theorem rt_z {q : Nat → Int32} {sz sp : Nat} (hs : q 2 = nI sz) (h : sz ≤ sp) (h2 : sp < 2 ^ 31) : q 2 ≤ nI sp := by rw [hs]; exact nI_le h h2
theorem rt_b {q1 : Nat → Int32} {sz sp d : Nat} {z : Int32 × (Nat → Int32) × (Nat → Int32) × (Nat → Int32)} (hz : sz ≤ 120) (hd : sz ≤ sp + (d + 1)) (h : RQ q1 sz sp z) (c : ¬ z.1 = 0) : sz ≤ (z.2.1 11).toNatClampNeg + d := by
  obtain ⟨⟨e, a1, a2, a3, a4⟩, _, _⟩ := h
  have := a4 c
  rw [a1, nI_clamp (by omega)]
  omega
theorem rt_12 {q1 : Nat → Int32} {sz sp : Nat} {z : Int32 × (Nat → Int32) × (Nat → Int32) × (Nat → Int32)} (hz : sz ≤ 120) (h : RQ q1 sz sp z) : z.2.1 11 = nI (z.2.1 11).toNatClampNeg ∧ (z.2.1 11).toNatClampNeg ≤ sz := by
  obtain ⟨⟨e, a1, a2, a3, a4⟩, _, _⟩ := h
  rw [a1, nI_clamp (by omega)]
  exact ⟨rfl, a3⟩
theorem rt_3 {q1 : Nat → Int32} {sz sp : Nat} {z : Int32 × (Nat → Int32) × (Nat → Int32) × (Nat → Int32)} (hs : q1 2 = nI sz) (h : RQ q1 sz sp z) : z.2.1 2 = nI sz := (h.2.2 2 (by decide)).trans hs
theorem rt_45 {q1 : Nat → Int32} {sz sp : Nat} {z : Int32 × (Nat → Int32) × (Nat → Int32) × (Nat → Int32)} (h : RQ q1 sz sp z) : z.2.2.1 0 = nI (z.2.2.1 0).toNatClampNeg ∧ (z.2.2.1 0).toNatClampNeg ≤ 6 := by
  obtain ⟨_, ⟨n, a1, a2⟩, _⟩ := h
  rw [a1, nI_clamp (by omega)]
  exact ⟨rfl, a2⟩
theorem rt_i {q tx : Nat → Int32} {sz : Nat} {a b : Int32} (hs : q 2 = nI sz) (hz : sz ≤ 120) (c : sX8_at (upd (upd q 11 a) 12 b) tx 0 = 77) : 1 ≤ sz :=
  at_lt (tx := tx) (p := 0) (q := upd (upd q 11 a) 12 b) ((pk_un (by decide)).trans ((pk_un (by decide)).trans hs)) hz (by decide) (by rw [c]; decide)
def lp_X8_readText_31 (q : Nat → Int32) (tx : Nat → Int32) (ft : Nat → Int32) (jb : Nat → Int32) (z_1 : (Nat → Int32)) : Nat → (Nat → Int32) → (Nat → Int32) → (Nat → Int32) → Nat → Nat → Int32 × (Nat → Int32) × (Nat → Int32) × (Nat → Int32)
  | 0, q1, ft1, jb1, sp1, n1 => ((-1), q1, ft1, jb1)
  | d + 1, q1, ft1, jb1, sp1, n1 => (if (q1 2) ≤ (nI sp1) then ((-1), q1, ft1, jb1) else ((fun (z_2 : Int32 × (Nat → Int32) × (Nat → Int32) × (Nat → Int32)) => (if z_2.1 = 0 then ((z_2.2.1 11), z_2.2.1, z_2.2.2.1, z_2.2.2.2) else (lp_X8_readText_31 q tx ft jb z_1 d z_2.2.1 z_2.2.2.1 z_2.2.2.2 ((z_2.2.1 11).toNatClampNeg) ((z_2.2.2.1 0).toNatClampNeg)))) (sX8_readCommand q1 tx ft1 jb1 sp1 n1)))
def sX8_readText_z_1 (q : Nat → Int32) (tx : Nat → Int32) (ft : Nat → Int32) (jb : Nat → Int32) (z_1 : (Nat → Int32)) : Int32 × (Nat → Int32) × (Nat → Int32) × (Nat → Int32) :=
  (if (sX8_at (upd (upd q 11 0) 12 0) tx 0) = 77 then (lp_X8_readText_31 q tx ft jb z_1 120 (upd (upd q 11 1) 12 0) z_1 jb 1 0) else (0, (upd (upd q 11 0) 12 0), z_1, jb))
def sX8_readText (q : Nat → Int32) (tx : Nat → Int32) (ft : Nat → Int32) (jb : Nat → Int32) : Int32 × (Nat → Int32) × (Nat → Int32) × (Nat → Int32) :=
  (sX8_readText_z_1 q tx ft jb (sX8_clear ft))
set_option maxRecDepth 100000 in
set_option maxHeartbeats 4000000 in
theorem c_X8_readText (l : Launch) (G : va_G) (kk : Nat → ClassId) (h : Nat) (b : Nat → Nat) (q : Nat → Int32) (tx : Nat → Int32) (ft : Nat → Int32) (jb : Nat → Int32) (sz : Nat) (hs : q 2 = nI sz) (hz : sz ≤ 120) : CC l yX8_readText cX8_readText 2 (some .int) (rmO 7 161) [.ref h, .ref (b 3)] G kk ([(h, .inr (8, moF b q)), ((b 1), .inl (kk 0, 120, .inl tx)), ((b 3), .inl (kk 0, 64, .inl ft)), ((b 7), .inl (kk 0, 6, .inl jb))]) (QI G kk ([(h, .inr (8, moF b ((sX8_readText q tx ft jb).2.1))), ((b 1), .inl (kk 0, 120, .inl tx)), ((b 3), .inl (kk 0, 64, .inl ((sX8_readText q tx ft jb).2.2.1))), ((b 7), .inl (kk 0, 6, .inl ((sX8_readText q tx ft jb).2.2.2)))]) ((sX8_readText q tx ft jb).1)) := by
  refine cc_start (by decide +kernel) (Nat.le_of_ble_eq_true rfl) ?_
  intro p e s m below meth c A ls hx hb hr hml hown hts hlocks hA hE hK hP hD hS hl
  have hown : s.vm.findClass RX8 = some m.cls := hown
  have hl : lv_has ls 2 [(0, .ref h), (1, .ref (b 3))] := hl
  have eS : sX8_readText q tx ft jb = sX8_readText q tx ft jb := rfl
  refine lv_aload_n hx hb dX8_readText_0 rfl (lv_at hl 1 rfl) ?_
  refine k_goV (k_runS (rest := []) (As := [.ref (b 3)]) hx hb hml hown hts hK hP hD hS hA hE hl.1 (c_X8_clear l G kk (b 3) ft ) sl_X8_32 ⟨Nat.le_of_ble_eq_true rfl, Nat.le_of_ble_eq_true rfl, rfl, rfl⟩ [2] rfl rfl ⟨Nat.zero_le _, Nat.zero_le _⟩ rfl (Nat.le_of_ble_eq_true rfl) dX8_readText_1) hP hD hS hA [2] rfl ads1 (fun H locs hP hD hS => ?_)
  replace hP : va_P G vwCl ([(h, .inr (8, moF b q)), ((b 1), .inl (kk 0, 120, .inl tx)), ((b 3), .inl (kk 0, 64, .inl (sX8_clear ft))), ((b 7), .inl (kk 0, 6, .inl jb))]) H := hP
  replace hD : va_D A ([(h, .inr (8, moF b q)), ((b 1), .inl (kk 0, 120, .inl tx)), ((b 3), .inl (kk 0, 64, .inl (sX8_clear ft))), ((b 7), .inl (kk 0, 6, .inl jb))]) := hD
  have eS : sX8_readText q tx ft jb = sX8_readText_z_1 q tx ft jb (sX8_clear ft) := eS
  have hz_1 := clr_0 ft
  generalize sX8_clear ft = z_1 at hP hD eS hz_1 ⊢
  refine lv_aload_n hx hb dX8_readText_4 rfl (lv_at hl 0 rfl) ?_
  refine lv_iconst (v := 0) hx hb dX8_readText_5 (by decide) ?_
  refine r_put hx hb hts hown hK hP hD hS fl_X8_139 fw_8_12 0 rfl rfl rfl (Nat.le_of_ble_eq_true rfl) dX8_readText_6 (fun H locs hP hD hS => ?_)
  replace hP : va_P G vwCl ([(h, .inr (8, moF b (upd q 12 0))), ((b 1), .inl (kk 0, 120, .inl tx)), ((b 3), .inl (kk 0, 64, .inl z_1)), ((b 7), .inl (kk 0, 6, .inl jb))]) H := hP
  replace hD : va_D A ([(h, .inr (8, moF b (upd q 12 0))), ((b 1), .inl (kk 0, 120, .inl tx)), ((b 3), .inl (kk 0, 64, .inl z_1)), ((b 7), .inl (kk 0, 6, .inl jb))]) := hD
  refine lv_aload_n hx hb dX8_readText_9 rfl (lv_at hl 0 rfl) ?_
  refine lv_iconst (v := 0) hx hb dX8_readText_10 (by decide) ?_
  refine r_put hx hb hts hown hK hP hD hS fl_X8_127 fw_8_11 0 rfl rfl rfl (Nat.le_of_ble_eq_true rfl) dX8_readText_11 (fun H locs hP hD hS => ?_)
  replace hP : va_P G vwCl ([(h, .inr (8, moF b (upd (upd q 11 0) 12 0))), ((b 1), .inl (kk 0, 120, .inl tx)), ((b 3), .inl (kk 0, 64, .inl z_1)), ((b 7), .inl (kk 0, 6, .inl jb))]) H := hP
  replace hD : va_D A ([(h, .inr (8, moF b (upd (upd q 11 0) 12 0))), ((b 1), .inl (kk 0, 120, .inl tx)), ((b 3), .inl (kk 0, 64, .inl z_1)), ((b 7), .inl (kk 0, 6, .inl jb))]) := hD
  refine lv_aload_n hx hb dX8_readText_14 rfl (lv_at hl 0 rfl) ?_
  refine lv_iconst (v := 0) hx hb dX8_readText_15 (by decide) ?_
  refine k_goI (k_runV (rest := []) (As := [.int 0]) hx hb hml hown hts hK hP hD hS hA hE hl.1 (c_X8_at l G kk h b (upd (upd q 11 0) 12 0) tx sz 0 ((pk_un (by decide)).trans ((pk_un (by decide)).trans hs)) hz (by decide)) vl_X8_130 rfl rfl rfl ⟨Nat.le_of_ble_eq_true rfl, Nat.le_of_ble_eq_true rfl, rfl, rfl⟩ [0, 1] rfl rfl ⟨Nat.zero_le _, Nat.zero_le _⟩ rfl (Nat.le_of_ble_eq_true rfl) dX8_readText_16) hP hD hS hA [0, 1] rfl ads2 (fun H locs hP hD hS => ?_)
  replace hP : va_P G vwCl ([(h, .inr (8, moF b (upd (upd q 11 0) 12 0))), ((b 1), .inl (kk 0, 120, .inl tx)), ((b 3), .inl (kk 0, 64, .inl z_1)), ((b 7), .inl (kk 0, 6, .inl jb))]) H := hP
  replace hD : va_D A ([(h, .inr (8, moF b (upd (upd q 11 0) 12 0))), ((b 1), .inl (kk 0, 120, .inl tx)), ((b 3), .inl (kk 0, 64, .inl z_1)), ((b 7), .inl (kk 0, 6, .inl jb))]) := hD
  refine lv_bipush (v := 77) hx hb dX8_readText_19 (by decide) ?_
  refine lv_icmp_eq (tgt := 26) hx hb dX8_readText_21 (by decide) (fun c_21 => ?_) (fun c_21 => ?_)
  · have eS := eS.trans (if_pos c_21)
    refine lv_aload_n hx hb dX8_readText_26 rfl (lv_at hl 0 rfl) ?_
    refine lv_iconst (v := 1) hx hb dX8_readText_27 (by decide) ?_
    refine r_put hx hb hts hown hK hP hD hS fl_X8_127 fw_8_11 0 rfl rfl rfl (Nat.le_of_ble_eq_true rfl) dX8_readText_28 (fun H locs hP hD hS => ?_)
    replace hP : va_P G vwCl ([(h, .inr (8, moF b (upd (upd q 11 1) 12 0))), ((b 1), .inl (kk 0, 120, .inl tx)), ((b 3), .inl (kk 0, 64, .inl z_1)), ((b 7), .inl (kk 0, 6, .inl jb))]) H := hP
    replace hD : va_D A ([(h, .inr (8, moF b (upd (upd q 11 1) 12 0))), ((b 1), .inl (kk 0, 120, .inl tx)), ((b 3), .inl (kk 0, 64, .inl z_1)), ((b 7), .inl (kk 0, 6, .inl jb))]) := hD
    have L_3 : ∀ (d : Nat) (q1 : Nat → Int32) (ft1 : Nat → Int32) (jb1 : Nat → Int32) (sp1 : Nat) (n1 : Nat) (hd : sz ≤ sp1 + d) (hp1 : q1 11 = nI sp1) (hsp1 : sp1 ≤ sz) (hs1 : q1 2 = nI sz) (hn1 : ft1 0 = nI n1) (h61 : n1 ≤ 6) (eS : sX8_readText q tx ft jb = lp_X8_readText_31 q tx ft jb z_1 d q1 ft1 jb1 sp1 n1) (H : Heap) (locs : List Loc) (ls : Array Slot) (hP : va_P G vwCl ([(h, .inr (8, moF b q1)), ((b 1), .inl (kk 0, 120, .inl tx)), ((b 3), .inl (kk 0, 64, .inl ft1)), ((b 7), .inl (kk 0, 6, .inl jb1))]) H) (hD : va_D A ([(h, .inr (8, moF b q1)), ((b 1), .inl (kk 0, 120, .inl tx)), ((b 3), .inl (kk 0, 64, .inl ft1)), ((b 7), .inl (kk 0, 6, .inl jb1))])) (hS : va_S A s.heap H locs) (hl : lv_has ls 2 [(0, .ref h), (1, .ref (b 3))]), GO p l e (rmO 7 161) s m ([.ref h, .ref (b 3)] : List Value).toArray below meth c A (QI G kk ([(h, .inr (8, moF b ((sX8_readText q tx ft jb).2.1))), ((b 1), .inl (kk 0, 120, .inl tx)), ((b 3), .inl (kk 0, 64, .inl ((sX8_readText q tx ft jb).2.2.1))), ((b 7), .inl (kk 0, 6, .inl ((sX8_readText q tx ft jb).2.2.2)))]) ((sX8_readText q tx ft jb).1)) H locs (F0 m 31 ls []) := by
      intro d
      induction d with
      | zero =>
        intro q1 ft1 jb1 sp1 n1 hd hp1 hsp1 hs1 hn1 h61 eS H locs ls hP hD hS hl
        refine lv_aload_n hx hb dX8_readText_31 rfl (lv_at hl 0 rfl) ?_
        refine r_get (v := .int (q1 11)) hx hb hts hown hK hP fl_X8_127 0 rfl rfl dX8_readText_32 ?_
        refine top_eq (y := (nI sp1)) (hp1) ?_
        refine lv_aload_n hx hb dX8_readText_35 rfl (lv_at hl 0 rfl) ?_
        refine r_get (v := .int (q1 2)) hx hb hts hown hK hP fl_X8_116 0 rfl rfl dX8_readText_36 ?_
        refine lv_icmp_ge (tgt := 55) hx hb dX8_readText_39 (by decide) (fun c_39 => ?_) (fun c_39 => absurd (rt_z hs1 (by omega) (by omega)) c_39)
        refine lv_iconst (v := (-1)) hx hb dX8_readText_55 (by decide) ?_
        exact fin_i hx hb hr hlocks hK (vP_eq (congrArg (fun z : Int32 × (Nat → Int32) × (Nat → Int32) × (Nat → Int32) => ([(h, .inr (8, moF b z.2.1)), ((b 1), .inl (kk 0, 120, .inl tx)), ((b 3), .inl (kk 0, 64, .inl z.2.2.1)), ((b 7), .inl (kk 0, 6, .inl z.2.2.2))] : va_W)) eS.symm) hP) (vD_eq (congrArg (fun z : Int32 × (Nat → Int32) × (Nat → Int32) × (Nat → Int32) => ([(h, .inr (8, moF b z.2.1)), ((b 1), .inl (kk 0, 120, .inl tx)), ((b 3), .inl (kk 0, 64, .inl z.2.2.1)), ((b 7), .inl (kk 0, 6, .inl z.2.2.2))] : va_W)) eS.symm) hD) hS (congrArg (fun z : Int32 × (Nat → Int32) × (Nat → Int32) × (Nat → Int32) => z.1) eS) dX8_readText_56
      | succ d ih =>
        intro q1 ft1 jb1 sp1 n1 hd hp1 hsp1 hs1 hn1 h61 eS H locs ls hP hD hS hl
        refine lv_aload_n hx hb dX8_readText_31 rfl (lv_at hl 0 rfl) ?_
        refine r_get (v := .int (q1 11)) hx hb hts hown hK hP fl_X8_127 0 rfl rfl dX8_readText_32 ?_
        refine top_eq (y := (nI sp1)) (hp1) ?_
        refine lv_aload_n hx hb dX8_readText_35 rfl (lv_at hl 0 rfl) ?_
        refine r_get (v := .int (q1 2)) hx hb hts hown hK hP fl_X8_116 0 rfl rfl dX8_readText_36 ?_
        refine lv_icmp_ge (tgt := 55) hx hb dX8_readText_39 (by decide) (fun c_39 => ?_) (fun c_39 => ?_)
        · have eS := eS.trans (if_pos c_39)
          refine lv_iconst (v := (-1)) hx hb dX8_readText_55 (by decide) ?_
          exact fin_i hx hb hr hlocks hK (vP_eq (congrArg (fun z : Int32 × (Nat → Int32) × (Nat → Int32) × (Nat → Int32) => ([(h, .inr (8, moF b z.2.1)), ((b 1), .inl (kk 0, 120, .inl tx)), ((b 3), .inl (kk 0, 64, .inl z.2.2.1)), ((b 7), .inl (kk 0, 6, .inl z.2.2.2))] : va_W)) eS.symm) hP) (vD_eq (congrArg (fun z : Int32 × (Nat → Int32) × (Nat → Int32) × (Nat → Int32) => ([(h, .inr (8, moF b z.2.1)), ((b 1), .inl (kk 0, 120, .inl tx)), ((b 3), .inl (kk 0, 64, .inl z.2.2.1)), ((b 7), .inl (kk 0, 6, .inl z.2.2.2))] : va_W)) eS.symm) hD) hS (congrArg (fun z : Int32 × (Nat → Int32) × (Nat → Int32) × (Nat → Int32) => z.1) eS) dX8_readText_56
        · have eS := eS.trans (if_neg c_39)
          refine lv_aload_n hx hb dX8_readText_42 rfl (lv_at hl 0 rfl) ?_
          refine lv_aload_n hx hb dX8_readText_43 rfl (lv_at hl 1 rfl) ?_
          refine k_goI (k_runV (rest := []) (As := [.ref (b 3)]) hx hb hml hown hts hK hP hD hS hA hE hl.1 (c_X8_readCommand l G kk h b q1 tx ft1 jb1 sz sp1 n1 hs1 hz hp1 (at_l hs1 hz (by omega) c_39) hn1 h61) vl_X8_168 rfl rfl rfl ⟨Nat.le_of_ble_eq_true rfl, Nat.le_of_ble_eq_true rfl, rfl, rfl⟩ [0, 1, 2, 3] rfl rfl ⟨Nat.zero_le _, Nat.zero_le _⟩ rfl (Nat.le_of_ble_eq_true rfl) dX8_readText_44) hP hD hS hA [0, 1, 2, 3] rfl ads4 (fun H locs hP hD hS => ?_)
          replace hP : va_P G vwCl ([(h, .inr (8, moF b ((sX8_readCommand q1 tx ft1 jb1 sp1 n1).2.1))), ((b 1), .inl (kk 0, 120, .inl tx)), ((b 3), .inl (kk 0, 64, .inl ((sX8_readCommand q1 tx ft1 jb1 sp1 n1).2.2.1))), ((b 7), .inl (kk 0, 6, .inl ((sX8_readCommand q1 tx ft1 jb1 sp1 n1).2.2.2)))]) H := hP
          replace hD : va_D A ([(h, .inr (8, moF b ((sX8_readCommand q1 tx ft1 jb1 sp1 n1).2.1))), ((b 1), .inl (kk 0, 120, .inl tx)), ((b 3), .inl (kk 0, 64, .inl ((sX8_readCommand q1 tx ft1 jb1 sp1 n1).2.2.1))), ((b 7), .inl (kk 0, 6, .inl ((sX8_readCommand q1 tx ft1 jb1 sp1 n1).2.2.2)))]) := hD
          have eS : sX8_readText q tx ft jb = (fun (z_2 : Int32 × (Nat → Int32) × (Nat → Int32) × (Nat → Int32)) => (if z_2.1 = 0 then ((z_2.2.1 11), z_2.2.1, z_2.2.2.1, z_2.2.2.2) else (lp_X8_readText_31 q tx ft jb z_1 d z_2.2.1 z_2.2.2.1 z_2.2.2.2 ((z_2.2.1 11).toNatClampNeg) ((z_2.2.2.1 0).toNatClampNeg)))) (sX8_readCommand q1 tx ft1 jb1 sp1 n1) := eS
          have hz_2 := rc_p q1 tx ft1 jb1 sp1 n1 hs1 hz hp1 (at_l hs1 hz (by omega) c_39) hn1 h61
          generalize sX8_readCommand q1 tx ft1 jb1 sp1 n1 = z_2 at hP hD eS hz_2 ⊢
          refine lv_if_ne (tgt := 31) hx hb dX8_readText_47 (by decide) (fun c_47 => ?_) (fun c_47 => ?_)
          · have eS := eS.trans (if_neg c_47)
            exact ih z_2.2.1 z_2.2.2.1 z_2.2.2.2 ((z_2.2.1 11).toNatClampNeg) ((z_2.2.2.1 0).toNatClampNeg) (rt_b hz hd hz_2 c_47) (rt_12 hz hz_2).1 (rt_12 hz hz_2).2 (rt_3 hs1 hz_2) (rt_45 hz_2).1 (rt_45 hz_2).2 eS _ _ ls hP hD hS (lv_sub hl [0, 1] rfl)
          · have eS := eS.trans (if_pos c_47)
            refine lv_aload_n hx hb dX8_readText_50 rfl (lv_at hl 0 rfl) ?_
            refine r_get (v := .int (z_2.2.1 11)) hx hb hts hown hK hP fl_X8_127 0 rfl rfl dX8_readText_51 ?_
            exact fin_i hx hb hr hlocks hK (vP_eq (congrArg (fun z : Int32 × (Nat → Int32) × (Nat → Int32) × (Nat → Int32) => ([(h, .inr (8, moF b z.2.1)), ((b 1), .inl (kk 0, 120, .inl tx)), ((b 3), .inl (kk 0, 64, .inl z.2.2.1)), ((b 7), .inl (kk 0, 6, .inl z.2.2.2))] : va_W)) eS.symm) hP) (vD_eq (congrArg (fun z : Int32 × (Nat → Int32) × (Nat → Int32) × (Nat → Int32) => ([(h, .inr (8, moF b z.2.1)), ((b 1), .inl (kk 0, 120, .inl tx)), ((b 3), .inl (kk 0, 64, .inl z.2.2.1)), ((b 7), .inl (kk 0, 6, .inl z.2.2.2))] : va_W)) eS.symm) hD) hS (congrArg (fun z : Int32 × (Nat → Int32) × (Nat → Int32) × (Nat → Int32) => z.1) eS) dX8_readText_54
    exact L_3 120 (upd (upd q 11 1) 12 0) z_1 jb 1 0 (by omega) ((pk_un (by decide)).trans pk_us) (rt_i hs hz c_21) ((pk_un (by decide)).trans ((pk_un (by decide)).trans hs)) hz_1 (by decide) eS _ _ ls hP hD hS (lv_sub hl [0, 1] rfl)
  · have eS := eS.trans (if_neg c_21)
    refine lv_iconst (v := 0) hx hb dX8_readText_24 (by decide) ?_
    exact fin_i hx hb hr hlocks hK (vP_eq (congrArg (fun z : Int32 × (Nat → Int32) × (Nat → Int32) × (Nat → Int32) => ([(h, .inr (8, moF b z.2.1)), ((b 1), .inl (kk 0, 120, .inl tx)), ((b 3), .inl (kk 0, 64, .inl z.2.2.1)), ((b 7), .inl (kk 0, 6, .inl z.2.2.2))] : va_W)) eS.symm) hP) (vD_eq (congrArg (fun z : Int32 × (Nat → Int32) × (Nat → Int32) × (Nat → Int32) => ([(h, .inr (8, moF b z.2.1)), ((b 1), .inl (kk 0, 120, .inl tx)), ((b 3), .inl (kk 0, 64, .inl z.2.2.1)), ((b 7), .inl (kk 0, 6, .inl z.2.2.2))] : va_W)) eS.symm) hD) hS (congrArg (fun z : Int32 × (Nat → Int32) × (Nat → Int32) × (Nat → Int32) => z.1) eS) dX8_readText_25
