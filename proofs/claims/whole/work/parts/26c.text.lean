theorem zdif {α : Type} {P : α → Prop} {c : Prop} [Decidable c] {a b : α} (h1 : c → P a) (h2 : ¬ c → P b) : P (if c then a else b) := by
  by_cases h : c
  · rw [if_pos h]; exact h1 h
  · rw [if_neg h]; exact h2 h
/-- what reading does to the fields -/
def FQ (q : Nat → Int32) (sz sp : Nat) (z : Nat → Int32) : Prop := ∃ e, z 11 = nI e ∧ sp ≤ e ∧ e ≤ sz ∧ z 2 = nI sz ∧ zb (z 13) ∧ ∀ k, k ≠ 11 → k ≠ 13 → z k = q k
theorem fq_up {q q2 : Nat → Int32} {sz sp s2 : Nat} {z : Nat → Int32} (h : FQ q2 sz s2 z) (hk : ∀ k, k ≠ 11 → k ≠ 13 → q2 k = q k) (hp : sp ≤ s2) : FQ q sz sp z := by
  obtain ⟨e, a1, a2, a3, a4, a5, a6⟩ := h
  exact ⟨e, a1, by omega, a3, a4, a5, fun k h1 h2 => (a6 k h1 h2).trans (hk k h1 h2)⟩
theorem uu_k {q : Nat → Int32} {a b : Int32} : ∀ k, k ≠ 11 → k ≠ 13 → upd (upd q 11 a) 13 b k = q k := fun k h1 h2 => (pk_un h2).trans (pk_un h1)
theorem dg_b {x : Int32} (h : ¬ sX8_in (x - 48).toInt64 0 9 = 0) : 0 ≤ (x - 48).toInt ∧ (x - 48).toInt ≤ 9 := in_i (a := 0) (b := 9) h rfl rfl
theorem ut_b : ∀ d, 0 ≤ (UT d).toInt ∧ (UT d).toInt ≤ 1000
  | 0 => by decide
  | 1 => by decide
  | 2 => by decide
  | 3 => by decide
  | _ + 4 => by show 0 ≤ (1000 : Int32).toInt ∧ (1000 : Int32).toInt ≤ 1000; decide
theorem vdu {v x u : Int32} (hv : 0 ≤ v.toInt) (hv2 : v.toInt ≤ 9999) (hx : 0 ≤ x.toInt ∧ x.toInt ≤ 9) (hu : 0 ≤ u.toInt ∧ u.toInt ≤ 1000) : (v + x * u).toInt = v.toInt + x.toInt * u.toInt ∧ 0 ≤ x.toInt * u.toInt ∧ x.toInt * u.toInt ≤ 9000 := by
  have h0 : 0 ≤ x.toInt * u.toInt := Int.mul_nonneg hx.1 hu.1
  have h1 : x.toInt * u.toInt ≤ 9 * 1000 := Int.mul_le_mul hx.2 hu.2 hu.1 (by decide)
  refine ⟨?_, h0, by omega⟩
  rw [Int32.toInt_add, Int32.toInt_mul, Int.bmod_eq_of_le (n := x.toInt * u.toInt), Int.bmod_eq_of_le] <;> omega
theorem fig_0 {q tx : Nat → Int32} {sp dg i sz : Nat} {lo hi u : Int32} (hz : sz ≤ 120) (hhi : hi.toInt ≤ 9999) : ∀ (d : Nat) (u1 v1 : Int32) (q1 : Nat → Int32) (p1 : Nat), u1 = UT d → d ≤ 4 → q1 11 = nI p1 → p1 ≤ sz → q1 2 = nI sz → zb (q1 13) → 0 ≤ v1.toInt → v1.toInt ≤ 9999 → FQ q1 sz p1 (lp_X8_figures_28 q tx sp dg lo hi i u d u1 v1 q1 p1).2 ∧ 0 ≤ (lp_X8_figures_28 q tx sp dg lo hi i u d u1 v1 q1 p1).1.toInt ∧ (lp_X8_figures_28 q tx sp dg lo hi i u d u1 v1 q1 p1).1.toInt ≤ 9999
  | 0, u1, v1, q1, p1, _, _, hp, hps, hs, hb, hv, hv2 => ⟨⟨p1, hp, Nat.le_refl _, hps, hs, hb, fun _ _ _ => rfl⟩, hv, hv2⟩
  | d + 1, u1, v1, q1, p1, hu, hd, hp, hps, hs, hb, hv, hv2 => by
    have wr := fun (v : Int32) (h1 : 0 ≤ v.toInt) (h2 : v.toInt ≤ 9999) => fig_0 (q := q) (tx := tx) (sp := sp) (dg := dg) (lo := lo) (i := i) (u := u) hz hhi d (u1 / 10) v (upd (upd q1 11 (nI (p1 + 0))) 13 0) (p1 + 0) (ut_d hu (by omega)) (by omega) ((pk_un (by decide)).trans pk_us) hps ((pk_un (by decide)).trans ((pk_un (by decide)).trans hs)) (Or.inl pk_us) h1 h2
    have wr2 := fun (v : Int32) (h1 : 0 ≤ v.toInt) (h2 : v.toInt ≤ 9999) => (⟨fq_up (wr v h1 h2).1 uu_k (Nat.le_refl _), (wr v h1 h2).2⟩ : FQ q1 sz p1 _ ∧ _)
    refine zdif (P := fun z : Int32 × (Nat → Int32) => FQ q1 sz p1 z.2 ∧ 0 ≤ z.1.toInt ∧ z.1.toInt ≤ 9999) (fun _ => ⟨⟨p1, hp, Nat.le_refl _, hps, hs, hb, fun _ _ _ => rfl⟩, hv, hv2⟩) (fun _ => ?_)
    refine zdif (P := fun z : Int32 × (Nat → Int32) => FQ q1 sz p1 z.2 ∧ 0 ≤ z.1.toInt ∧ z.1.toInt ≤ 9999) (fun _ => wr2 v1 hv hv2) (fun c => ?_)
    refine zdif (P := fun z : Int32 × (Nat → Int32) => FQ q1 sz p1 z.2 ∧ 0 ≤ z.1.toInt ∧ z.1.toInt ≤ 9999) (fun _ => wr2 v1 hv hv2) (fun c2 => ?_)
    refine zdif (P := fun z : Int32 × (Nat → Int32) => FQ q1 sz p1 z.2 ∧ 0 ≤ z.1.toInt ∧ z.1.toInt ≤ 9999) (fun _ => wr2 v1 hv hv2) (fun _ => ?_)
    have hlt := at_lt hs hz (by omega) (at_48 c)
    have hub : 0 ≤ u1.toInt ∧ u1.toInt ≤ 1000 := by rw [hu]; exact ut_b _
    obtain ⟨e1, e2, e3⟩ := vdu hv hv2 (dg_b c) hub
    have c3 := Int32.not_lt.mp c2
    rw [Int32.le_iff_toInt_le, e1] at c3
    have r := fig_0 (q := q) (tx := tx) (sp := sp) (dg := dg) (lo := lo) (i := i) (u := u) hz hhi d (u1 / 10) (v1 + (sX8_at q1 tx p1 - 48) * u1) (upd (upd q1 11 (nI (p1 + 1))) 13 1) (p1 + 1) (ut_d hu (by omega)) (by omega) ((pk_un (by decide)).trans pk_us) hlt ((pk_un (by decide)).trans ((pk_un (by decide)).trans hs)) (Or.inr pk_us) (by rw [e1]; omega) (by rw [e1]; omega)
    exact ⟨fq_up r.1 uu_k (Nat.le_succ _), r.2⟩
theorem fig_1 {q tx : Nat → Int32} {sp dg sz : Nat} {lo hi : Int32} (hz : sz ≤ 120) (hhi : hi.toInt ≤ 9999) (hp : q 11 = nI sp) (hps : sp ≤ sz) (hs : q 2 = nI sz) (hb : zb (q 13)) (hdg4 : dg ≤ 4) : ∀ (d i : Nat) (u : Int32), i + d = dg → 1 ≤ i → u = UT i → FQ q sz sp (lp_X8_figures_6 q tx sp dg lo hi d i u).2 ∧ 0 ≤ (lp_X8_figures_6 q tx sp dg lo hi d i u).1.toInt ∧ (lp_X8_figures_6 q tx sp dg lo hi d i u).1.toInt ≤ 9999
  | 0, i, u, hd, _, hu => fig_0 hz hhi dg u 0 q sp (hu.trans (by rw [show i = dg by omega])) hdg4 hp hps hs hb (by decide) (by decide)
  | d + 1, i, u, hd, hi1, hu => fig_1 hz hhi hp hps hs hb hdg4 d (i + 1) (u * 10) (by omega) (by omega) (ut_m hu hi1 (by omega))
theorem fig_p {sz : Nat} (q tx : Nat → Int32) (sp dg : Nat) (lo hi : Int32) (hs : q 2 = nI sz) (hz : sz ≤ 120) (hp : q 11 = nI sp) (hps : sp ≤ sz) (hdg1 : 1 ≤ dg) (hdg4 : dg ≤ 4) (hb : zb (q 13)) (hhi : hi.toInt ≤ 9999) : FQ q sz sp (sX8_figures q tx sp dg lo hi).2 ∧ 0 ≤ (sX8_figures q tx sp dg lo hi).1.toInt ∧ (sX8_figures q tx sp dg lo hi).1.toInt ≤ 9999 := fig_1 hz hhi hp hps hs hb hdg4 (dg - 1) 1 1 (by omega) (Nat.le_refl 1) rfl
def sX8_temperature_z_1 (q : Nat → Int32) (tx : Nat → Int32) (sp : Nat) (z_1 : Int32 × (Nat → Int32)) : Int32 × (Nat → Int32) :=
  (if (sX8_at q tx sp) = 45 then ((-z_1.1), z_1.2) else (z_1.1, z_1.2))
def sX8_temperature_z_2 (q : Nat → Int32) (tx : Nat → Int32) (sp : Nat) (z_2 : Int32 × (Nat → Int32)) : Int32 × (Nat → Int32) :=
  (if (sX8_at q tx sp) = 45 then ((-z_2.1), z_2.2) else (z_2.1, z_2.2))
def sX8_temperature_z_3 (q : Nat → Int32) (tx : Nat → Int32) (sp : Nat) (z_3 : Int32 × (Nat → Int32)) : Int32 × (Nat → Int32) :=
  (if (sX8_at q tx sp) = 45 then ((-z_3.1), z_3.2) else (z_3.1, z_3.2))
def sX8_temperature_z_4 (q : Nat → Int32) (tx : Nat → Int32) (sp : Nat) (z_4 : Int32 × (Nat → Int32)) : Int32 × (Nat → Int32) :=
  (if (sX8_at q tx sp) = 45 then ((-z_4.1), z_4.2) else (z_4.1, z_4.2))
def sX8_temperature_z_5 (q : Nat → Int32) (tx : Nat → Int32) (sp : Nat) (z_5 : Int32 × (Nat → Int32)) : Int32 × (Nat → Int32) :=
  (if (sX8_at q tx sp) = 45 then ((-z_5.1), z_5.2) else (z_5.1, z_5.2))
def sX8_temperature_z_6 (q : Nat → Int32) (tx : Nat → Int32) (sp : Nat) (z_6 : Int32 × (Nat → Int32)) : Int32 × (Nat → Int32) :=
  (if (sX8_at q tx sp) = 45 then ((-z_6.1), z_6.2) else (z_6.1, z_6.2))
def sX8_temperature_z_7 (q : Nat → Int32) (tx : Nat → Int32) (sp : Nat) (z_7 : Int32 × (Nat → Int32)) : Int32 × (Nat → Int32) :=
  (if (sX8_at q tx sp) = 45 then ((-z_7.1), z_7.2) else (z_7.1, z_7.2))
def sX8_temperature_z_8 (q : Nat → Int32) (tx : Nat → Int32) (sp : Nat) (z_8 : Int32 × (Nat → Int32)) : Int32 × (Nat → Int32) :=
  (if (sX8_at q tx sp) = 45 then ((-z_8.1), z_8.2) else (z_8.1, z_8.2))
def sX8_temperature (q : Nat → Int32) (tx : Nat → Int32) (sp : Nat) : Int32 × (Nat → Int32) :=
  (if (q 13) = 0 then (if (sX8_at q tx sp) = 45 then (sX8_temperature_z_2 q tx sp (sX8_figures (upd (upd q 11 (nI (sp + 0))) 13 0) tx (sp + 0) 3 0 300)) else (sX8_temperature_z_1 q tx sp (sX8_figures (upd (upd q 11 (nI (sp + 0))) 13 0) tx (sp + 0) 3 0 200))) else (if (sX8_at q tx sp) = 43 then (if (sX8_at q tx sp) = 45 then (sX8_temperature_z_4 q tx sp (sX8_figures (upd (upd q 11 (nI (sp + 1))) 13 1) tx (sp + 1) 3 0 300)) else (sX8_temperature_z_3 q tx sp (sX8_figures (upd (upd q 11 (nI (sp + 1))) 13 1) tx (sp + 1) 3 0 200))) else (if (sX8_at q tx sp) = 45 then (if (sX8_at q tx sp) = 45 then (sX8_temperature_z_8 q tx sp (sX8_figures (upd (upd q 11 (nI (sp + 1))) 13 1) tx (sp + 1) 3 0 300)) else (sX8_temperature_z_7 q tx sp (sX8_figures (upd (upd q 11 (nI (sp + 1))) 13 1) tx (sp + 1) 3 0 200))) else (if (sX8_at q tx sp) = 45 then (sX8_temperature_z_6 q tx sp (sX8_figures (upd (upd q 11 (nI (sp + 0))) 13 0) tx (sp + 0) 3 0 300)) else (sX8_temperature_z_5 q tx sp (sX8_figures (upd (upd q 11 (nI (sp + 0))) 13 0) tx (sp + 0) 3 0 200))))))
set_option maxRecDepth 100000 in
set_option maxHeartbeats 4000000 in
theorem c_X8_temperature (l : Launch) (G : va_G) (kk : Nat → ClassId) (h : Nat) (b : Nat → Nat) (q : Nat → Int32) (tx : Nat → Int32) (sz : Nat) (sp : Nat) (hs : q 2 = nI sz) (hz : sz ≤ 120) (hp : q 11 = nI sp) (hps : sp ≤ sz) (hzb : zb (q 13)) : CC l yX8_temperature cX8_temperature 3 (some .int) (rmO 2 52) [.ref h] G kk ([(h, .inr (8, moF b q)), ((b 1), .inl (kk 0, 120, .inl tx))]) (QI G kk ([(h, .inr (8, moF b ((sX8_temperature q tx sp).2))), ((b 1), .inl (kk 0, 120, .inl tx))]) ((sX8_temperature q tx sp).1)) := by
  refine cc_start (by decide +kernel) (Nat.le_of_ble_eq_true rfl) ?_
  intro p e s m below meth c A ls hx hb hr hml hown hts hlocks hA hE hK hP hD hS hl
  have hown : s.vm.findClass RX8 = some m.cls := hown
  have hl : lv_has ls 3 [(0, .ref h)] := hl
  have eS : sX8_temperature q tx sp = sX8_temperature q tx sp := rfl
  refine lv_aload_n hx hb dX8_temperature_0 rfl (lv_at hl 0 rfl) ?_
  refine lv_aload_n hx hb dX8_temperature_1 rfl (lv_at hl 0 rfl) ?_
  refine r_get (v := .int (q 11)) hx hb hts hown hK hP fl_X8_127 0 rfl rfl dX8_temperature_2 ?_
  refine top_eq (y := (nI sp)) (hp) ?_
  refine k_goI (k_runV (rest := []) (As := [.int (nI sp)]) hx hb hml hown hts hK hP hD hS hA hE hl.1 (c_X8_at l G kk h b q tx sz sp hs hz (by omega)) vl_X8_130 rfl rfl rfl ⟨Nat.le_of_ble_eq_true rfl, Nat.le_of_ble_eq_true rfl, rfl, rfl⟩ [0, 1] rfl rfl ⟨Nat.zero_le _, Nat.zero_le _⟩ rfl (Nat.le_of_ble_eq_true rfl) dX8_temperature_5) hP hD hS hA [0, 1] rfl ads2 (fun H locs hP hD hS => ?_)
  replace hP : va_P G vwCl ([(h, .inr (8, moF b q)), ((b 1), .inl (kk 0, 120, .inl tx))]) H := hP
  replace hD : va_D A ([(h, .inr (8, moF b q)), ((b 1), .inl (kk 0, 120, .inl tx))]) := hD
  refine lv_istore_n (lv' := [(1, .int (sX8_at q tx sp)), (0, .ref h)]) hx hb dX8_temperature_8 rfl hl (by decide) rfl (fun ls hl => ?_)
  refine lv_aload_n hx hb dX8_temperature_9 rfl (lv_at hl 1 rfl) ?_
  refine lv_aload_n hx hb dX8_temperature_10 rfl (lv_at hl 1 rfl) ?_
  refine r_get (v := .int (q 13)) hx hb hts hown hK hP fl_X8_123 0 rfl rfl dX8_temperature_11 ?_
  refine lv_if_eq (tgt := 33) hx hb dX8_temperature_14 (by decide) (fun c_14 => ?_) (fun c_14 => ?_)
  · have eS := eS.trans (if_pos c_14)
    refine lv_iconst (v := 0) hx hb dX8_temperature_33 (by decide) ?_
    refine r_put hx hb hts hown hK hP hD hS fl_X8_123 fw_8_13 0 rfl rfl rfl (Nat.le_of_ble_eq_true rfl) dX8_temperature_34 (fun H locs hP hD hS => ?_)
    replace hP : va_P G vwCl ([(h, .inr (8, moF b (upd q 13 0))), ((b 1), .inl (kk 0, 120, .inl tx))]) H := hP
    replace hD : va_D A ([(h, .inr (8, moF b (upd q 13 0))), ((b 1), .inl (kk 0, 120, .inl tx))]) := hD
    refine lv_aload_n hx hb dX8_temperature_37 rfl (lv_at hl 1 rfl) ?_
    refine lv_dup hx hb dX8_temperature_38 rfl ?_
    refine r_get (v := .int (q 11)) hx hb hts hown hK hP fl_X8_127 0 rfl rfl dX8_temperature_39 ?_
    refine top_eq (y := (nI sp)) (hp) ?_
    refine lv_aload_n hx hb dX8_temperature_42 rfl (lv_at hl 1 rfl) ?_
    refine r_get (v := .int 0) hx hb hts hown hK hP fl_X8_123 0 rfl rfl dX8_temperature_43 ?_
    refine lv_if_eq (tgt := 53) hx hb dX8_temperature_46 (by decide) (fun c_46 => ?_) (fun c_46 => absurd (by decide) c_46)
    refine lv_iconst (v := 0) hx hb dX8_temperature_53 (by decide) ?_
    refine lv_iadd hx hb dX8_temperature_54 ?_
    refine top_eq (nI_add sp 0) ?_
    refine r_put hx hb hts hown hK hP hD hS fl_X8_127 fw_8_11 0 rfl rfl rfl (Nat.le_of_ble_eq_true rfl) dX8_temperature_55 (fun H locs hP hD hS => ?_)
    replace hP : va_P G vwCl ([(h, .inr (8, moF b (upd (upd q 11 (nI (sp + 0))) 13 0))), ((b 1), .inl (kk 0, 120, .inl tx))]) H := hP
    replace hD : va_D A ([(h, .inr (8, moF b (upd (upd q 11 (nI (sp + 0))) 13 0))), ((b 1), .inl (kk 0, 120, .inl tx))]) := hD
    refine lv_aload_n hx hb dX8_temperature_58 rfl (lv_at hl 1 rfl) ?_
    refine lv_iconst (v := 3) hx hb dX8_temperature_59 (by decide) ?_
    refine lv_iconst (v := 0) hx hb dX8_temperature_60 (by decide) ?_
    refine lv_iload_n hx hb dX8_temperature_61 rfl (lv_at hl 0 rfl) ?_
    refine lv_bipush (v := 45) hx hb dX8_temperature_62 (by decide) ?_
    refine lv_icmp_ne (tgt := 73) hx hb dX8_temperature_64 (by decide) (fun c_64 => ?_) (fun c_64 => ?_)
    · have eS := eS.trans (if_neg c_64)
      refine lv_sipush (v := 200) hx hb dX8_temperature_73 (by decide) ?_
      refine k_goI (k_runV (rest := []) (As := [.int 3, .int 0, .int 200]) hx hb hml hown hts hK hP hD hS hA hE hl.1 (c_X8_figures l G kk h b (upd (upd q 11 (nI (sp + 0))) 13 0) tx sz (sp + 0) 3 0 200 (by first | assumption | exact ((pk_un (by decide)).trans ((pk_un (by decide)).trans hs))) hz (by first | assumption | exact ((pk_un (by decide)).trans pk_us)) (by first | assumption | omega) (by decide) (by decide) (by first | assumption | exact Or.inl pk_us | exact Or.inr pk_us) (by first | decide | (split <;> decide))) vl_X8_136 rfl rfl rfl ⟨Nat.le_of_ble_eq_true rfl, Nat.le_of_ble_eq_true rfl, rfl, rfl⟩ [0, 1] rfl rfl ⟨Nat.zero_le _, Nat.zero_le _⟩ rfl (Nat.le_of_ble_eq_true rfl) dX8_temperature_76) hP hD hS hA [0, 1] rfl ads2 (fun H locs hP hD hS => ?_)
      replace hP : va_P G vwCl ([(h, .inr (8, moF b ((sX8_figures (upd (upd q 11 (nI (sp + 0))) 13 0) tx (sp + 0) 3 0 200).2))), ((b 1), .inl (kk 0, 120, .inl tx))]) H := hP
      replace hD : va_D A ([(h, .inr (8, moF b ((sX8_figures (upd (upd q 11 (nI (sp + 0))) 13 0) tx (sp + 0) 3 0 200).2))), ((b 1), .inl (kk 0, 120, .inl tx))]) := hD
      have eS : sX8_temperature q tx sp = sX8_temperature_z_1 q tx sp (sX8_figures (upd (upd q 11 (nI (sp + 0))) 13 0) tx (sp + 0) 3 0 200) := eS
      have hz_1 := fig_p (upd (upd q 11 (nI (sp + 0))) 13 0) tx (sp + 0) 3 0 200 (by first | assumption | exact ((pk_un (by decide)).trans ((pk_un (by decide)).trans hs))) hz (by first | assumption | exact ((pk_un (by decide)).trans pk_us)) (by first | assumption | omega) (by decide) (by decide) (by first | assumption | exact Or.inl pk_us | exact Or.inr pk_us) (by first | decide | (split <;> decide))
      generalize sX8_figures (upd (upd q 11 (nI (sp + 0))) 13 0) tx (sp + 0) 3 0 200 = z_1 at hP hD eS hz_1 ⊢
      refine lv_istore_n (lv' := [(2, .int z_1.1), (1, .int (sX8_at q tx sp)), (0, .ref h)]) hx hb dX8_temperature_79 rfl hl (by decide) rfl (fun ls hl => ?_)
      refine lv_iload_n hx hb dX8_temperature_80 rfl (lv_at hl 1 rfl) ?_
      refine lv_bipush (v := 45) hx hb dX8_temperature_81 (by decide) ?_
      refine lv_icmp_ne (tgt := 91) hx hb dX8_temperature_83 (by decide) (fun c_83 => ?_) (fun c_83 => ?_)
      · have eS := eS.trans (if_neg c_83)
        refine lv_iload_n hx hb dX8_temperature_91 rfl (lv_at hl 0 rfl) ?_
        exact fin_i hx hb hr hlocks hK (vP_eq (congrArg (fun z : Int32 × (Nat → Int32) => ([(h, .inr (8, moF b z.2)), ((b 1), .inl (kk 0, 120, .inl tx))] : va_W)) eS.symm) hP) (vD_eq (congrArg (fun z : Int32 × (Nat → Int32) => ([(h, .inr (8, moF b z.2)), ((b 1), .inl (kk 0, 120, .inl tx))] : va_W)) eS.symm) hD) hS ((congrArg (fun z : Int32 × (Nat → Int32) => z.1) eS).trans rfl) dX8_temperature_92
      · have eS := eS.trans (if_pos c_83)
        refine lv_iload_n hx hb dX8_temperature_86 rfl (lv_at hl 0 rfl) ?_
        refine lv_ineg hx hb dX8_temperature_87 ?_
        refine lv_goto (tgt := 92) hx hb dX8_temperature_88 (by decide) ?_
        exact fin_i hx hb hr hlocks hK (vP_eq (congrArg (fun z : Int32 × (Nat → Int32) => ([(h, .inr (8, moF b z.2)), ((b 1), .inl (kk 0, 120, .inl tx))] : va_W)) eS.symm) hP) (vD_eq (congrArg (fun z : Int32 × (Nat → Int32) => ([(h, .inr (8, moF b z.2)), ((b 1), .inl (kk 0, 120, .inl tx))] : va_W)) eS.symm) hD) hS (congrArg (fun z : Int32 × (Nat → Int32) => z.1) eS) dX8_temperature_92
    · have eS := eS.trans (if_pos c_64)
      refine lv_sipush (v := 300) hx hb dX8_temperature_67 (by decide) ?_
      refine lv_goto (tgt := 76) hx hb dX8_temperature_70 (by decide) ?_
      refine k_goI (k_runV (rest := []) (As := [.int 3, .int 0, .int 300]) hx hb hml hown hts hK hP hD hS hA hE hl.1 (c_X8_figures l G kk h b (upd (upd q 11 (nI (sp + 0))) 13 0) tx sz (sp + 0) 3 0 300 (by first | assumption | exact ((pk_un (by decide)).trans ((pk_un (by decide)).trans hs))) hz (by first | assumption | exact ((pk_un (by decide)).trans pk_us)) (by first | assumption | omega) (by decide) (by decide) (by first | assumption | exact Or.inl pk_us | exact Or.inr pk_us) (by first | decide | (split <;> decide))) vl_X8_136 rfl rfl rfl ⟨Nat.le_of_ble_eq_true rfl, Nat.le_of_ble_eq_true rfl, rfl, rfl⟩ [0, 1] rfl rfl ⟨Nat.zero_le _, Nat.zero_le _⟩ rfl (Nat.le_of_ble_eq_true rfl) dX8_temperature_76) hP hD hS hA [0, 1] rfl ads2 (fun H locs hP hD hS => ?_)
      replace hP : va_P G vwCl ([(h, .inr (8, moF b ((sX8_figures (upd (upd q 11 (nI (sp + 0))) 13 0) tx (sp + 0) 3 0 300).2))), ((b 1), .inl (kk 0, 120, .inl tx))]) H := hP
      replace hD : va_D A ([(h, .inr (8, moF b ((sX8_figures (upd (upd q 11 (nI (sp + 0))) 13 0) tx (sp + 0) 3 0 300).2))), ((b 1), .inl (kk 0, 120, .inl tx))]) := hD
      have eS : sX8_temperature q tx sp = sX8_temperature_z_2 q tx sp (sX8_figures (upd (upd q 11 (nI (sp + 0))) 13 0) tx (sp + 0) 3 0 300) := eS
      have hz_2 := fig_p (upd (upd q 11 (nI (sp + 0))) 13 0) tx (sp + 0) 3 0 300 (by first | assumption | exact ((pk_un (by decide)).trans ((pk_un (by decide)).trans hs))) hz (by first | assumption | exact ((pk_un (by decide)).trans pk_us)) (by first | assumption | omega) (by decide) (by decide) (by first | assumption | exact Or.inl pk_us | exact Or.inr pk_us) (by first | decide | (split <;> decide))
      generalize sX8_figures (upd (upd q 11 (nI (sp + 0))) 13 0) tx (sp + 0) 3 0 300 = z_2 at hP hD eS hz_2 ⊢
      refine lv_istore_n (lv' := [(2, .int z_2.1), (1, .int (sX8_at q tx sp)), (0, .ref h)]) hx hb dX8_temperature_79 rfl hl (by decide) rfl (fun ls hl => ?_)
      refine lv_iload_n hx hb dX8_temperature_80 rfl (lv_at hl 1 rfl) ?_
      refine lv_bipush (v := 45) hx hb dX8_temperature_81 (by decide) ?_
      refine lv_icmp_ne (tgt := 91) hx hb dX8_temperature_83 (by decide) (fun c_83 => ?_) (fun c_83 => ?_)
      · have eS := eS.trans (if_neg c_83)
        refine lv_iload_n hx hb dX8_temperature_91 rfl (lv_at hl 0 rfl) ?_
        exact fin_i hx hb hr hlocks hK (vP_eq (congrArg (fun z : Int32 × (Nat → Int32) => ([(h, .inr (8, moF b z.2)), ((b 1), .inl (kk 0, 120, .inl tx))] : va_W)) eS.symm) hP) (vD_eq (congrArg (fun z : Int32 × (Nat → Int32) => ([(h, .inr (8, moF b z.2)), ((b 1), .inl (kk 0, 120, .inl tx))] : va_W)) eS.symm) hD) hS ((congrArg (fun z : Int32 × (Nat → Int32) => z.1) eS).trans rfl) dX8_temperature_92
      · have eS := eS.trans (if_pos c_83)
        refine lv_iload_n hx hb dX8_temperature_86 rfl (lv_at hl 0 rfl) ?_
        refine lv_ineg hx hb dX8_temperature_87 ?_
        refine lv_goto (tgt := 92) hx hb dX8_temperature_88 (by decide) ?_
        exact fin_i hx hb hr hlocks hK (vP_eq (congrArg (fun z : Int32 × (Nat → Int32) => ([(h, .inr (8, moF b z.2)), ((b 1), .inl (kk 0, 120, .inl tx))] : va_W)) eS.symm) hP) (vD_eq (congrArg (fun z : Int32 × (Nat → Int32) => ([(h, .inr (8, moF b z.2)), ((b 1), .inl (kk 0, 120, .inl tx))] : va_W)) eS.symm) hD) hS (congrArg (fun z : Int32 × (Nat → Int32) => z.1) eS) dX8_temperature_92
  · have eS := eS.trans (if_neg c_14)
    refine lv_iload_n hx hb dX8_temperature_17 rfl (lv_at hl 0 rfl) ?_
    refine lv_bipush (v := 43) hx hb dX8_temperature_18 (by decide) ?_
    refine lv_icmp_eq (tgt := 29) hx hb dX8_temperature_20 (by decide) (fun c_20 => ?_) (fun c_20 => ?_)
    · have eS := eS.trans (if_pos c_20)
      have hlt := at_lt (tx := tx) (p := sp) hs hz (by omega) (by first | (rw [c_20]; decide) | (rw [c_26]; decide))
      refine lv_iconst (v := 1) hx hb dX8_temperature_29 (by decide) ?_
      refine lv_goto (tgt := 34) hx hb dX8_temperature_30 (by decide) ?_
      refine r_put hx hb hts hown hK hP hD hS fl_X8_123 fw_8_13 0 rfl rfl rfl (Nat.le_of_ble_eq_true rfl) dX8_temperature_34 (fun H locs hP hD hS => ?_)
      replace hP : va_P G vwCl ([(h, .inr (8, moF b (upd q 13 1))), ((b 1), .inl (kk 0, 120, .inl tx))]) H := hP
      replace hD : va_D A ([(h, .inr (8, moF b (upd q 13 1))), ((b 1), .inl (kk 0, 120, .inl tx))]) := hD
      refine lv_aload_n hx hb dX8_temperature_37 rfl (lv_at hl 1 rfl) ?_
      refine lv_dup hx hb dX8_temperature_38 rfl ?_
      refine r_get (v := .int (q 11)) hx hb hts hown hK hP fl_X8_127 0 rfl rfl dX8_temperature_39 ?_
      refine top_eq (y := (nI sp)) (hp) ?_
      refine lv_aload_n hx hb dX8_temperature_42 rfl (lv_at hl 1 rfl) ?_
      refine r_get (v := .int 1) hx hb hts hown hK hP fl_X8_123 0 rfl rfl dX8_temperature_43 ?_
      refine lv_if_eq (tgt := 53) hx hb dX8_temperature_46 (by decide) (fun c_46 => absurd c_46 (by decide)) (fun c_46 => ?_)
      refine lv_iconst (v := 1) hx hb dX8_temperature_49 (by decide) ?_
      refine lv_goto (tgt := 54) hx hb dX8_temperature_50 (by decide) ?_
      refine lv_iadd hx hb dX8_temperature_54 ?_
      refine top_eq (nI_add sp 1) ?_
      refine r_put hx hb hts hown hK hP hD hS fl_X8_127 fw_8_11 0 rfl rfl rfl (Nat.le_of_ble_eq_true rfl) dX8_temperature_55 (fun H locs hP hD hS => ?_)
      replace hP : va_P G vwCl ([(h, .inr (8, moF b (upd (upd q 11 (nI (sp + 1))) 13 1))), ((b 1), .inl (kk 0, 120, .inl tx))]) H := hP
      replace hD : va_D A ([(h, .inr (8, moF b (upd (upd q 11 (nI (sp + 1))) 13 1))), ((b 1), .inl (kk 0, 120, .inl tx))]) := hD
      refine lv_aload_n hx hb dX8_temperature_58 rfl (lv_at hl 1 rfl) ?_
      refine lv_iconst (v := 3) hx hb dX8_temperature_59 (by decide) ?_
      refine lv_iconst (v := 0) hx hb dX8_temperature_60 (by decide) ?_
      refine lv_iload_n hx hb dX8_temperature_61 rfl (lv_at hl 0 rfl) ?_
      refine lv_bipush (v := 45) hx hb dX8_temperature_62 (by decide) ?_
      refine lv_icmp_ne (tgt := 73) hx hb dX8_temperature_64 (by decide) (fun c_64 => ?_) (fun c_64 => ?_)
      · have eS := eS.trans (if_neg c_64)
        refine lv_sipush (v := 200) hx hb dX8_temperature_73 (by decide) ?_
        refine k_goI (k_runV (rest := []) (As := [.int 3, .int 0, .int 200]) hx hb hml hown hts hK hP hD hS hA hE hl.1 (c_X8_figures l G kk h b (upd (upd q 11 (nI (sp + 1))) 13 1) tx sz (sp + 1) 3 0 200 (by first | assumption | exact ((pk_un (by decide)).trans ((pk_un (by decide)).trans hs))) hz (by first | assumption | exact ((pk_un (by decide)).trans pk_us)) (by first | assumption | omega) (by decide) (by decide) (by first | assumption | exact Or.inl pk_us | exact Or.inr pk_us) (by first | decide | (split <;> decide))) vl_X8_136 rfl rfl rfl ⟨Nat.le_of_ble_eq_true rfl, Nat.le_of_ble_eq_true rfl, rfl, rfl⟩ [0, 1] rfl rfl ⟨Nat.zero_le _, Nat.zero_le _⟩ rfl (Nat.le_of_ble_eq_true rfl) dX8_temperature_76) hP hD hS hA [0, 1] rfl ads2 (fun H locs hP hD hS => ?_)
        replace hP : va_P G vwCl ([(h, .inr (8, moF b ((sX8_figures (upd (upd q 11 (nI (sp + 1))) 13 1) tx (sp + 1) 3 0 200).2))), ((b 1), .inl (kk 0, 120, .inl tx))]) H := hP
        replace hD : va_D A ([(h, .inr (8, moF b ((sX8_figures (upd (upd q 11 (nI (sp + 1))) 13 1) tx (sp + 1) 3 0 200).2))), ((b 1), .inl (kk 0, 120, .inl tx))]) := hD
        have eS : sX8_temperature q tx sp = sX8_temperature_z_3 q tx sp (sX8_figures (upd (upd q 11 (nI (sp + 1))) 13 1) tx (sp + 1) 3 0 200) := eS
        have hz_3 := fig_p (upd (upd q 11 (nI (sp + 1))) 13 1) tx (sp + 1) 3 0 200 (by first | assumption | exact ((pk_un (by decide)).trans ((pk_un (by decide)).trans hs))) hz (by first | assumption | exact ((pk_un (by decide)).trans pk_us)) (by first | assumption | omega) (by decide) (by decide) (by first | assumption | exact Or.inl pk_us | exact Or.inr pk_us) (by first | decide | (split <;> decide))
        generalize sX8_figures (upd (upd q 11 (nI (sp + 1))) 13 1) tx (sp + 1) 3 0 200 = z_3 at hP hD eS hz_3 ⊢
        refine lv_istore_n (lv' := [(2, .int z_3.1), (1, .int (sX8_at q tx sp)), (0, .ref h)]) hx hb dX8_temperature_79 rfl hl (by decide) rfl (fun ls hl => ?_)
        refine lv_iload_n hx hb dX8_temperature_80 rfl (lv_at hl 1 rfl) ?_
        refine lv_bipush (v := 45) hx hb dX8_temperature_81 (by decide) ?_
        refine lv_icmp_ne (tgt := 91) hx hb dX8_temperature_83 (by decide) (fun c_83 => ?_) (fun c_83 => ?_)
        · have eS := eS.trans (if_neg c_83)
          refine lv_iload_n hx hb dX8_temperature_91 rfl (lv_at hl 0 rfl) ?_
          exact fin_i hx hb hr hlocks hK (vP_eq (congrArg (fun z : Int32 × (Nat → Int32) => ([(h, .inr (8, moF b z.2)), ((b 1), .inl (kk 0, 120, .inl tx))] : va_W)) eS.symm) hP) (vD_eq (congrArg (fun z : Int32 × (Nat → Int32) => ([(h, .inr (8, moF b z.2)), ((b 1), .inl (kk 0, 120, .inl tx))] : va_W)) eS.symm) hD) hS ((congrArg (fun z : Int32 × (Nat → Int32) => z.1) eS).trans rfl) dX8_temperature_92
        · have eS := eS.trans (if_pos c_83)
          refine lv_iload_n hx hb dX8_temperature_86 rfl (lv_at hl 0 rfl) ?_
          refine lv_ineg hx hb dX8_temperature_87 ?_
          refine lv_goto (tgt := 92) hx hb dX8_temperature_88 (by decide) ?_
          exact fin_i hx hb hr hlocks hK (vP_eq (congrArg (fun z : Int32 × (Nat → Int32) => ([(h, .inr (8, moF b z.2)), ((b 1), .inl (kk 0, 120, .inl tx))] : va_W)) eS.symm) hP) (vD_eq (congrArg (fun z : Int32 × (Nat → Int32) => ([(h, .inr (8, moF b z.2)), ((b 1), .inl (kk 0, 120, .inl tx))] : va_W)) eS.symm) hD) hS (congrArg (fun z : Int32 × (Nat → Int32) => z.1) eS) dX8_temperature_92
      · have eS := eS.trans (if_pos c_64)
        refine lv_sipush (v := 300) hx hb dX8_temperature_67 (by decide) ?_
        refine lv_goto (tgt := 76) hx hb dX8_temperature_70 (by decide) ?_
        refine k_goI (k_runV (rest := []) (As := [.int 3, .int 0, .int 300]) hx hb hml hown hts hK hP hD hS hA hE hl.1 (c_X8_figures l G kk h b (upd (upd q 11 (nI (sp + 1))) 13 1) tx sz (sp + 1) 3 0 300 (by first | assumption | exact ((pk_un (by decide)).trans ((pk_un (by decide)).trans hs))) hz (by first | assumption | exact ((pk_un (by decide)).trans pk_us)) (by first | assumption | omega) (by decide) (by decide) (by first | assumption | exact Or.inl pk_us | exact Or.inr pk_us) (by first | decide | (split <;> decide))) vl_X8_136 rfl rfl rfl ⟨Nat.le_of_ble_eq_true rfl, Nat.le_of_ble_eq_true rfl, rfl, rfl⟩ [0, 1] rfl rfl ⟨Nat.zero_le _, Nat.zero_le _⟩ rfl (Nat.le_of_ble_eq_true rfl) dX8_temperature_76) hP hD hS hA [0, 1] rfl ads2 (fun H locs hP hD hS => ?_)
        replace hP : va_P G vwCl ([(h, .inr (8, moF b ((sX8_figures (upd (upd q 11 (nI (sp + 1))) 13 1) tx (sp + 1) 3 0 300).2))), ((b 1), .inl (kk 0, 120, .inl tx))]) H := hP
        replace hD : va_D A ([(h, .inr (8, moF b ((sX8_figures (upd (upd q 11 (nI (sp + 1))) 13 1) tx (sp + 1) 3 0 300).2))), ((b 1), .inl (kk 0, 120, .inl tx))]) := hD
        have eS : sX8_temperature q tx sp = sX8_temperature_z_4 q tx sp (sX8_figures (upd (upd q 11 (nI (sp + 1))) 13 1) tx (sp + 1) 3 0 300) := eS
        have hz_4 := fig_p (upd (upd q 11 (nI (sp + 1))) 13 1) tx (sp + 1) 3 0 300 (by first | assumption | exact ((pk_un (by decide)).trans ((pk_un (by decide)).trans hs))) hz (by first | assumption | exact ((pk_un (by decide)).trans pk_us)) (by first | assumption | omega) (by decide) (by decide) (by first | assumption | exact Or.inl pk_us | exact Or.inr pk_us) (by first | decide | (split <;> decide))
        generalize sX8_figures (upd (upd q 11 (nI (sp + 1))) 13 1) tx (sp + 1) 3 0 300 = z_4 at hP hD eS hz_4 ⊢
        refine lv_istore_n (lv' := [(2, .int z_4.1), (1, .int (sX8_at q tx sp)), (0, .ref h)]) hx hb dX8_temperature_79 rfl hl (by decide) rfl (fun ls hl => ?_)
        refine lv_iload_n hx hb dX8_temperature_80 rfl (lv_at hl 1 rfl) ?_
        refine lv_bipush (v := 45) hx hb dX8_temperature_81 (by decide) ?_
        refine lv_icmp_ne (tgt := 91) hx hb dX8_temperature_83 (by decide) (fun c_83 => ?_) (fun c_83 => ?_)
        · have eS := eS.trans (if_neg c_83)
          refine lv_iload_n hx hb dX8_temperature_91 rfl (lv_at hl 0 rfl) ?_
          exact fin_i hx hb hr hlocks hK (vP_eq (congrArg (fun z : Int32 × (Nat → Int32) => ([(h, .inr (8, moF b z.2)), ((b 1), .inl (kk 0, 120, .inl tx))] : va_W)) eS.symm) hP) (vD_eq (congrArg (fun z : Int32 × (Nat → Int32) => ([(h, .inr (8, moF b z.2)), ((b 1), .inl (kk 0, 120, .inl tx))] : va_W)) eS.symm) hD) hS ((congrArg (fun z : Int32 × (Nat → Int32) => z.1) eS).trans rfl) dX8_temperature_92
        · have eS := eS.trans (if_pos c_83)
          refine lv_iload_n hx hb dX8_temperature_86 rfl (lv_at hl 0 rfl) ?_
          refine lv_ineg hx hb dX8_temperature_87 ?_
          refine lv_goto (tgt := 92) hx hb dX8_temperature_88 (by decide) ?_
          exact fin_i hx hb hr hlocks hK (vP_eq (congrArg (fun z : Int32 × (Nat → Int32) => ([(h, .inr (8, moF b z.2)), ((b 1), .inl (kk 0, 120, .inl tx))] : va_W)) eS.symm) hP) (vD_eq (congrArg (fun z : Int32 × (Nat → Int32) => ([(h, .inr (8, moF b z.2)), ((b 1), .inl (kk 0, 120, .inl tx))] : va_W)) eS.symm) hD) hS (congrArg (fun z : Int32 × (Nat → Int32) => z.1) eS) dX8_temperature_92
    · have eS := eS.trans (if_neg c_20)
      refine lv_iload_n hx hb dX8_temperature_23 rfl (lv_at hl 0 rfl) ?_
      refine lv_bipush (v := 45) hx hb dX8_temperature_24 (by decide) ?_
      refine lv_icmp_ne (tgt := 33) hx hb dX8_temperature_26 (by decide) (fun c_26 => ?_) (fun c_26 => ?_)
      · have eS := eS.trans (if_neg c_26)
        refine lv_iconst (v := 0) hx hb dX8_temperature_33 (by decide) ?_
        refine r_put hx hb hts hown hK hP hD hS fl_X8_123 fw_8_13 0 rfl rfl rfl (Nat.le_of_ble_eq_true rfl) dX8_temperature_34 (fun H locs hP hD hS => ?_)
        replace hP : va_P G vwCl ([(h, .inr (8, moF b (upd q 13 0))), ((b 1), .inl (kk 0, 120, .inl tx))]) H := hP
        replace hD : va_D A ([(h, .inr (8, moF b (upd q 13 0))), ((b 1), .inl (kk 0, 120, .inl tx))]) := hD
        refine lv_aload_n hx hb dX8_temperature_37 rfl (lv_at hl 1 rfl) ?_
        refine lv_dup hx hb dX8_temperature_38 rfl ?_
        refine r_get (v := .int (q 11)) hx hb hts hown hK hP fl_X8_127 0 rfl rfl dX8_temperature_39 ?_
        refine top_eq (y := (nI sp)) (hp) ?_
        refine lv_aload_n hx hb dX8_temperature_42 rfl (lv_at hl 1 rfl) ?_
        refine r_get (v := .int 0) hx hb hts hown hK hP fl_X8_123 0 rfl rfl dX8_temperature_43 ?_
        refine lv_if_eq (tgt := 53) hx hb dX8_temperature_46 (by decide) (fun c_46 => ?_) (fun c_46 => absurd (by decide) c_46)
        refine lv_iconst (v := 0) hx hb dX8_temperature_53 (by decide) ?_
        refine lv_iadd hx hb dX8_temperature_54 ?_
        refine top_eq (nI_add sp 0) ?_
        refine r_put hx hb hts hown hK hP hD hS fl_X8_127 fw_8_11 0 rfl rfl rfl (Nat.le_of_ble_eq_true rfl) dX8_temperature_55 (fun H locs hP hD hS => ?_)
        replace hP : va_P G vwCl ([(h, .inr (8, moF b (upd (upd q 11 (nI (sp + 0))) 13 0))), ((b 1), .inl (kk 0, 120, .inl tx))]) H := hP
        replace hD : va_D A ([(h, .inr (8, moF b (upd (upd q 11 (nI (sp + 0))) 13 0))), ((b 1), .inl (kk 0, 120, .inl tx))]) := hD
        refine lv_aload_n hx hb dX8_temperature_58 rfl (lv_at hl 1 rfl) ?_
        refine lv_iconst (v := 3) hx hb dX8_temperature_59 (by decide) ?_
        refine lv_iconst (v := 0) hx hb dX8_temperature_60 (by decide) ?_
        refine lv_iload_n hx hb dX8_temperature_61 rfl (lv_at hl 0 rfl) ?_
        refine lv_bipush (v := 45) hx hb dX8_temperature_62 (by decide) ?_
        refine lv_icmp_ne (tgt := 73) hx hb dX8_temperature_64 (by decide) (fun c_64 => ?_) (fun c_64 => ?_)
        · have eS := eS.trans (if_neg c_64)
          refine lv_sipush (v := 200) hx hb dX8_temperature_73 (by decide) ?_
          refine k_goI (k_runV (rest := []) (As := [.int 3, .int 0, .int 200]) hx hb hml hown hts hK hP hD hS hA hE hl.1 (c_X8_figures l G kk h b (upd (upd q 11 (nI (sp + 0))) 13 0) tx sz (sp + 0) 3 0 200 (by first | assumption | exact ((pk_un (by decide)).trans ((pk_un (by decide)).trans hs))) hz (by first | assumption | exact ((pk_un (by decide)).trans pk_us)) (by first | assumption | omega) (by decide) (by decide) (by first | assumption | exact Or.inl pk_us | exact Or.inr pk_us) (by first | decide | (split <;> decide))) vl_X8_136 rfl rfl rfl ⟨Nat.le_of_ble_eq_true rfl, Nat.le_of_ble_eq_true rfl, rfl, rfl⟩ [0, 1] rfl rfl ⟨Nat.zero_le _, Nat.zero_le _⟩ rfl (Nat.le_of_ble_eq_true rfl) dX8_temperature_76) hP hD hS hA [0, 1] rfl ads2 (fun H locs hP hD hS => ?_)
          replace hP : va_P G vwCl ([(h, .inr (8, moF b ((sX8_figures (upd (upd q 11 (nI (sp + 0))) 13 0) tx (sp + 0) 3 0 200).2))), ((b 1), .inl (kk 0, 120, .inl tx))]) H := hP
          replace hD : va_D A ([(h, .inr (8, moF b ((sX8_figures (upd (upd q 11 (nI (sp + 0))) 13 0) tx (sp + 0) 3 0 200).2))), ((b 1), .inl (kk 0, 120, .inl tx))]) := hD
          have eS : sX8_temperature q tx sp = sX8_temperature_z_5 q tx sp (sX8_figures (upd (upd q 11 (nI (sp + 0))) 13 0) tx (sp + 0) 3 0 200) := eS
          have hz_5 := fig_p (upd (upd q 11 (nI (sp + 0))) 13 0) tx (sp + 0) 3 0 200 (by first | assumption | exact ((pk_un (by decide)).trans ((pk_un (by decide)).trans hs))) hz (by first | assumption | exact ((pk_un (by decide)).trans pk_us)) (by first | assumption | omega) (by decide) (by decide) (by first | assumption | exact Or.inl pk_us | exact Or.inr pk_us) (by first | decide | (split <;> decide))
          generalize sX8_figures (upd (upd q 11 (nI (sp + 0))) 13 0) tx (sp + 0) 3 0 200 = z_5 at hP hD eS hz_5 ⊢
          refine lv_istore_n (lv' := [(2, .int z_5.1), (1, .int (sX8_at q tx sp)), (0, .ref h)]) hx hb dX8_temperature_79 rfl hl (by decide) rfl (fun ls hl => ?_)
          refine lv_iload_n hx hb dX8_temperature_80 rfl (lv_at hl 1 rfl) ?_
          refine lv_bipush (v := 45) hx hb dX8_temperature_81 (by decide) ?_
          refine lv_icmp_ne (tgt := 91) hx hb dX8_temperature_83 (by decide) (fun c_83 => ?_) (fun c_83 => ?_)
          · have eS := eS.trans (if_neg c_83)
            refine lv_iload_n hx hb dX8_temperature_91 rfl (lv_at hl 0 rfl) ?_
            exact fin_i hx hb hr hlocks hK (vP_eq (congrArg (fun z : Int32 × (Nat → Int32) => ([(h, .inr (8, moF b z.2)), ((b 1), .inl (kk 0, 120, .inl tx))] : va_W)) eS.symm) hP) (vD_eq (congrArg (fun z : Int32 × (Nat → Int32) => ([(h, .inr (8, moF b z.2)), ((b 1), .inl (kk 0, 120, .inl tx))] : va_W)) eS.symm) hD) hS ((congrArg (fun z : Int32 × (Nat → Int32) => z.1) eS).trans rfl) dX8_temperature_92
          · have eS := eS.trans (if_pos c_83)
            refine lv_iload_n hx hb dX8_temperature_86 rfl (lv_at hl 0 rfl) ?_
            refine lv_ineg hx hb dX8_temperature_87 ?_
            refine lv_goto (tgt := 92) hx hb dX8_temperature_88 (by decide) ?_
            exact fin_i hx hb hr hlocks hK (vP_eq (congrArg (fun z : Int32 × (Nat → Int32) => ([(h, .inr (8, moF b z.2)), ((b 1), .inl (kk 0, 120, .inl tx))] : va_W)) eS.symm) hP) (vD_eq (congrArg (fun z : Int32 × (Nat → Int32) => ([(h, .inr (8, moF b z.2)), ((b 1), .inl (kk 0, 120, .inl tx))] : va_W)) eS.symm) hD) hS (congrArg (fun z : Int32 × (Nat → Int32) => z.1) eS) dX8_temperature_92
        · have eS := eS.trans (if_pos c_64)
          refine lv_sipush (v := 300) hx hb dX8_temperature_67 (by decide) ?_
          refine lv_goto (tgt := 76) hx hb dX8_temperature_70 (by decide) ?_
          refine k_goI (k_runV (rest := []) (As := [.int 3, .int 0, .int 300]) hx hb hml hown hts hK hP hD hS hA hE hl.1 (c_X8_figures l G kk h b (upd (upd q 11 (nI (sp + 0))) 13 0) tx sz (sp + 0) 3 0 300 (by first | assumption | exact ((pk_un (by decide)).trans ((pk_un (by decide)).trans hs))) hz (by first | assumption | exact ((pk_un (by decide)).trans pk_us)) (by first | assumption | omega) (by decide) (by decide) (by first | assumption | exact Or.inl pk_us | exact Or.inr pk_us) (by first | decide | (split <;> decide))) vl_X8_136 rfl rfl rfl ⟨Nat.le_of_ble_eq_true rfl, Nat.le_of_ble_eq_true rfl, rfl, rfl⟩ [0, 1] rfl rfl ⟨Nat.zero_le _, Nat.zero_le _⟩ rfl (Nat.le_of_ble_eq_true rfl) dX8_temperature_76) hP hD hS hA [0, 1] rfl ads2 (fun H locs hP hD hS => ?_)
          replace hP : va_P G vwCl ([(h, .inr (8, moF b ((sX8_figures (upd (upd q 11 (nI (sp + 0))) 13 0) tx (sp + 0) 3 0 300).2))), ((b 1), .inl (kk 0, 120, .inl tx))]) H := hP
          replace hD : va_D A ([(h, .inr (8, moF b ((sX8_figures (upd (upd q 11 (nI (sp + 0))) 13 0) tx (sp + 0) 3 0 300).2))), ((b 1), .inl (kk 0, 120, .inl tx))]) := hD
          have eS : sX8_temperature q tx sp = sX8_temperature_z_6 q tx sp (sX8_figures (upd (upd q 11 (nI (sp + 0))) 13 0) tx (sp + 0) 3 0 300) := eS
          have hz_6 := fig_p (upd (upd q 11 (nI (sp + 0))) 13 0) tx (sp + 0) 3 0 300 (by first | assumption | exact ((pk_un (by decide)).trans ((pk_un (by decide)).trans hs))) hz (by first | assumption | exact ((pk_un (by decide)).trans pk_us)) (by first | assumption | omega) (by decide) (by decide) (by first | assumption | exact Or.inl pk_us | exact Or.inr pk_us) (by first | decide | (split <;> decide))
          generalize sX8_figures (upd (upd q 11 (nI (sp + 0))) 13 0) tx (sp + 0) 3 0 300 = z_6 at hP hD eS hz_6 ⊢
          refine lv_istore_n (lv' := [(2, .int z_6.1), (1, .int (sX8_at q tx sp)), (0, .ref h)]) hx hb dX8_temperature_79 rfl hl (by decide) rfl (fun ls hl => ?_)
          refine lv_iload_n hx hb dX8_temperature_80 rfl (lv_at hl 1 rfl) ?_
          refine lv_bipush (v := 45) hx hb dX8_temperature_81 (by decide) ?_
          refine lv_icmp_ne (tgt := 91) hx hb dX8_temperature_83 (by decide) (fun c_83 => ?_) (fun c_83 => ?_)
          · have eS := eS.trans (if_neg c_83)
            refine lv_iload_n hx hb dX8_temperature_91 rfl (lv_at hl 0 rfl) ?_
            exact fin_i hx hb hr hlocks hK (vP_eq (congrArg (fun z : Int32 × (Nat → Int32) => ([(h, .inr (8, moF b z.2)), ((b 1), .inl (kk 0, 120, .inl tx))] : va_W)) eS.symm) hP) (vD_eq (congrArg (fun z : Int32 × (Nat → Int32) => ([(h, .inr (8, moF b z.2)), ((b 1), .inl (kk 0, 120, .inl tx))] : va_W)) eS.symm) hD) hS ((congrArg (fun z : Int32 × (Nat → Int32) => z.1) eS).trans rfl) dX8_temperature_92
          · have eS := eS.trans (if_pos c_83)
            refine lv_iload_n hx hb dX8_temperature_86 rfl (lv_at hl 0 rfl) ?_
            refine lv_ineg hx hb dX8_temperature_87 ?_
            refine lv_goto (tgt := 92) hx hb dX8_temperature_88 (by decide) ?_
            exact fin_i hx hb hr hlocks hK (vP_eq (congrArg (fun z : Int32 × (Nat → Int32) => ([(h, .inr (8, moF b z.2)), ((b 1), .inl (kk 0, 120, .inl tx))] : va_W)) eS.symm) hP) (vD_eq (congrArg (fun z : Int32 × (Nat → Int32) => ([(h, .inr (8, moF b z.2)), ((b 1), .inl (kk 0, 120, .inl tx))] : va_W)) eS.symm) hD) hS (congrArg (fun z : Int32 × (Nat → Int32) => z.1) eS) dX8_temperature_92
      · have eS := eS.trans (if_pos c_26)
        have hlt := at_lt (tx := tx) (p := sp) hs hz (by omega) (by first | (rw [c_20]; decide) | (rw [c_26]; decide))
        refine lv_iconst (v := 1) hx hb dX8_temperature_29 (by decide) ?_
        refine lv_goto (tgt := 34) hx hb dX8_temperature_30 (by decide) ?_
        refine r_put hx hb hts hown hK hP hD hS fl_X8_123 fw_8_13 0 rfl rfl rfl (Nat.le_of_ble_eq_true rfl) dX8_temperature_34 (fun H locs hP hD hS => ?_)
        replace hP : va_P G vwCl ([(h, .inr (8, moF b (upd q 13 1))), ((b 1), .inl (kk 0, 120, .inl tx))]) H := hP
        replace hD : va_D A ([(h, .inr (8, moF b (upd q 13 1))), ((b 1), .inl (kk 0, 120, .inl tx))]) := hD
        refine lv_aload_n hx hb dX8_temperature_37 rfl (lv_at hl 1 rfl) ?_
        refine lv_dup hx hb dX8_temperature_38 rfl ?_
        refine r_get (v := .int (q 11)) hx hb hts hown hK hP fl_X8_127 0 rfl rfl dX8_temperature_39 ?_
        refine top_eq (y := (nI sp)) (hp) ?_
        refine lv_aload_n hx hb dX8_temperature_42 rfl (lv_at hl 1 rfl) ?_
        refine r_get (v := .int 1) hx hb hts hown hK hP fl_X8_123 0 rfl rfl dX8_temperature_43 ?_
        refine lv_if_eq (tgt := 53) hx hb dX8_temperature_46 (by decide) (fun c_46 => absurd c_46 (by decide)) (fun c_46 => ?_)
        refine lv_iconst (v := 1) hx hb dX8_temperature_49 (by decide) ?_
        refine lv_goto (tgt := 54) hx hb dX8_temperature_50 (by decide) ?_
        refine lv_iadd hx hb dX8_temperature_54 ?_
        refine top_eq (nI_add sp 1) ?_
        refine r_put hx hb hts hown hK hP hD hS fl_X8_127 fw_8_11 0 rfl rfl rfl (Nat.le_of_ble_eq_true rfl) dX8_temperature_55 (fun H locs hP hD hS => ?_)
        replace hP : va_P G vwCl ([(h, .inr (8, moF b (upd (upd q 11 (nI (sp + 1))) 13 1))), ((b 1), .inl (kk 0, 120, .inl tx))]) H := hP
        replace hD : va_D A ([(h, .inr (8, moF b (upd (upd q 11 (nI (sp + 1))) 13 1))), ((b 1), .inl (kk 0, 120, .inl tx))]) := hD
        refine lv_aload_n hx hb dX8_temperature_58 rfl (lv_at hl 1 rfl) ?_
        refine lv_iconst (v := 3) hx hb dX8_temperature_59 (by decide) ?_
        refine lv_iconst (v := 0) hx hb dX8_temperature_60 (by decide) ?_
        refine lv_iload_n hx hb dX8_temperature_61 rfl (lv_at hl 0 rfl) ?_
        refine lv_bipush (v := 45) hx hb dX8_temperature_62 (by decide) ?_
        refine lv_icmp_ne (tgt := 73) hx hb dX8_temperature_64 (by decide) (fun c_64 => ?_) (fun c_64 => ?_)
        · have eS := eS.trans (if_neg c_64)
          refine lv_sipush (v := 200) hx hb dX8_temperature_73 (by decide) ?_
          refine k_goI (k_runV (rest := []) (As := [.int 3, .int 0, .int 200]) hx hb hml hown hts hK hP hD hS hA hE hl.1 (c_X8_figures l G kk h b (upd (upd q 11 (nI (sp + 1))) 13 1) tx sz (sp + 1) 3 0 200 (by first | assumption | exact ((pk_un (by decide)).trans ((pk_un (by decide)).trans hs))) hz (by first | assumption | exact ((pk_un (by decide)).trans pk_us)) (by first | assumption | omega) (by decide) (by decide) (by first | assumption | exact Or.inl pk_us | exact Or.inr pk_us) (by first | decide | (split <;> decide))) vl_X8_136 rfl rfl rfl ⟨Nat.le_of_ble_eq_true rfl, Nat.le_of_ble_eq_true rfl, rfl, rfl⟩ [0, 1] rfl rfl ⟨Nat.zero_le _, Nat.zero_le _⟩ rfl (Nat.le_of_ble_eq_true rfl) dX8_temperature_76) hP hD hS hA [0, 1] rfl ads2 (fun H locs hP hD hS => ?_)
          replace hP : va_P G vwCl ([(h, .inr (8, moF b ((sX8_figures (upd (upd q 11 (nI (sp + 1))) 13 1) tx (sp + 1) 3 0 200).2))), ((b 1), .inl (kk 0, 120, .inl tx))]) H := hP
          replace hD : va_D A ([(h, .inr (8, moF b ((sX8_figures (upd (upd q 11 (nI (sp + 1))) 13 1) tx (sp + 1) 3 0 200).2))), ((b 1), .inl (kk 0, 120, .inl tx))]) := hD
          have eS : sX8_temperature q tx sp = sX8_temperature_z_7 q tx sp (sX8_figures (upd (upd q 11 (nI (sp + 1))) 13 1) tx (sp + 1) 3 0 200) := eS
          have hz_7 := fig_p (upd (upd q 11 (nI (sp + 1))) 13 1) tx (sp + 1) 3 0 200 (by first | assumption | exact ((pk_un (by decide)).trans ((pk_un (by decide)).trans hs))) hz (by first | assumption | exact ((pk_un (by decide)).trans pk_us)) (by first | assumption | omega) (by decide) (by decide) (by first | assumption | exact Or.inl pk_us | exact Or.inr pk_us) (by first | decide | (split <;> decide))
          generalize sX8_figures (upd (upd q 11 (nI (sp + 1))) 13 1) tx (sp + 1) 3 0 200 = z_7 at hP hD eS hz_7 ⊢
          refine lv_istore_n (lv' := [(2, .int z_7.1), (1, .int (sX8_at q tx sp)), (0, .ref h)]) hx hb dX8_temperature_79 rfl hl (by decide) rfl (fun ls hl => ?_)
          refine lv_iload_n hx hb dX8_temperature_80 rfl (lv_at hl 1 rfl) ?_
          refine lv_bipush (v := 45) hx hb dX8_temperature_81 (by decide) ?_
          refine lv_icmp_ne (tgt := 91) hx hb dX8_temperature_83 (by decide) (fun c_83 => ?_) (fun c_83 => ?_)
          · have eS := eS.trans (if_neg c_83)
            refine lv_iload_n hx hb dX8_temperature_91 rfl (lv_at hl 0 rfl) ?_
            exact fin_i hx hb hr hlocks hK (vP_eq (congrArg (fun z : Int32 × (Nat → Int32) => ([(h, .inr (8, moF b z.2)), ((b 1), .inl (kk 0, 120, .inl tx))] : va_W)) eS.symm) hP) (vD_eq (congrArg (fun z : Int32 × (Nat → Int32) => ([(h, .inr (8, moF b z.2)), ((b 1), .inl (kk 0, 120, .inl tx))] : va_W)) eS.symm) hD) hS ((congrArg (fun z : Int32 × (Nat → Int32) => z.1) eS).trans rfl) dX8_temperature_92
          · have eS := eS.trans (if_pos c_83)
            refine lv_iload_n hx hb dX8_temperature_86 rfl (lv_at hl 0 rfl) ?_
            refine lv_ineg hx hb dX8_temperature_87 ?_
            refine lv_goto (tgt := 92) hx hb dX8_temperature_88 (by decide) ?_
            exact fin_i hx hb hr hlocks hK (vP_eq (congrArg (fun z : Int32 × (Nat → Int32) => ([(h, .inr (8, moF b z.2)), ((b 1), .inl (kk 0, 120, .inl tx))] : va_W)) eS.symm) hP) (vD_eq (congrArg (fun z : Int32 × (Nat → Int32) => ([(h, .inr (8, moF b z.2)), ((b 1), .inl (kk 0, 120, .inl tx))] : va_W)) eS.symm) hD) hS (congrArg (fun z : Int32 × (Nat → Int32) => z.1) eS) dX8_temperature_92
        · have eS := eS.trans (if_pos c_64)
          refine lv_sipush (v := 300) hx hb dX8_temperature_67 (by decide) ?_
          refine lv_goto (tgt := 76) hx hb dX8_temperature_70 (by decide) ?_
          refine k_goI (k_runV (rest := []) (As := [.int 3, .int 0, .int 300]) hx hb hml hown hts hK hP hD hS hA hE hl.1 (c_X8_figures l G kk h b (upd (upd q 11 (nI (sp + 1))) 13 1) tx sz (sp + 1) 3 0 300 (by first | assumption | exact ((pk_un (by decide)).trans ((pk_un (by decide)).trans hs))) hz (by first | assumption | exact ((pk_un (by decide)).trans pk_us)) (by first | assumption | omega) (by decide) (by decide) (by first | assumption | exact Or.inl pk_us | exact Or.inr pk_us) (by first | decide | (split <;> decide))) vl_X8_136 rfl rfl rfl ⟨Nat.le_of_ble_eq_true rfl, Nat.le_of_ble_eq_true rfl, rfl, rfl⟩ [0, 1] rfl rfl ⟨Nat.zero_le _, Nat.zero_le _⟩ rfl (Nat.le_of_ble_eq_true rfl) dX8_temperature_76) hP hD hS hA [0, 1] rfl ads2 (fun H locs hP hD hS => ?_)
          replace hP : va_P G vwCl ([(h, .inr (8, moF b ((sX8_figures (upd (upd q 11 (nI (sp + 1))) 13 1) tx (sp + 1) 3 0 300).2))), ((b 1), .inl (kk 0, 120, .inl tx))]) H := hP
          replace hD : va_D A ([(h, .inr (8, moF b ((sX8_figures (upd (upd q 11 (nI (sp + 1))) 13 1) tx (sp + 1) 3 0 300).2))), ((b 1), .inl (kk 0, 120, .inl tx))]) := hD
          have eS : sX8_temperature q tx sp = sX8_temperature_z_8 q tx sp (sX8_figures (upd (upd q 11 (nI (sp + 1))) 13 1) tx (sp + 1) 3 0 300) := eS
          have hz_8 := fig_p (upd (upd q 11 (nI (sp + 1))) 13 1) tx (sp + 1) 3 0 300 (by first | assumption | exact ((pk_un (by decide)).trans ((pk_un (by decide)).trans hs))) hz (by first | assumption | exact ((pk_un (by decide)).trans pk_us)) (by first | assumption | omega) (by decide) (by decide) (by first | assumption | exact Or.inl pk_us | exact Or.inr pk_us) (by first | decide | (split <;> decide))
          generalize sX8_figures (upd (upd q 11 (nI (sp + 1))) 13 1) tx (sp + 1) 3 0 300 = z_8 at hP hD eS hz_8 ⊢
          refine lv_istore_n (lv' := [(2, .int z_8.1), (1, .int (sX8_at q tx sp)), (0, .ref h)]) hx hb dX8_temperature_79 rfl hl (by decide) rfl (fun ls hl => ?_)
          refine lv_iload_n hx hb dX8_temperature_80 rfl (lv_at hl 1 rfl) ?_
          refine lv_bipush (v := 45) hx hb dX8_temperature_81 (by decide) ?_
          refine lv_icmp_ne (tgt := 91) hx hb dX8_temperature_83 (by decide) (fun c_83 => ?_) (fun c_83 => ?_)
          · have eS := eS.trans (if_neg c_83)
            refine lv_iload_n hx hb dX8_temperature_91 rfl (lv_at hl 0 rfl) ?_
            exact fin_i hx hb hr hlocks hK (vP_eq (congrArg (fun z : Int32 × (Nat → Int32) => ([(h, .inr (8, moF b z.2)), ((b 1), .inl (kk 0, 120, .inl tx))] : va_W)) eS.symm) hP) (vD_eq (congrArg (fun z : Int32 × (Nat → Int32) => ([(h, .inr (8, moF b z.2)), ((b 1), .inl (kk 0, 120, .inl tx))] : va_W)) eS.symm) hD) hS ((congrArg (fun z : Int32 × (Nat → Int32) => z.1) eS).trans rfl) dX8_temperature_92
          · have eS := eS.trans (if_pos c_83)
            refine lv_iload_n hx hb dX8_temperature_86 rfl (lv_at hl 0 rfl) ?_
            refine lv_ineg hx hb dX8_temperature_87 ?_
            refine lv_goto (tgt := 92) hx hb dX8_temperature_88 (by decide) ?_
            exact fin_i hx hb hr hlocks hK (vP_eq (congrArg (fun z : Int32 × (Nat → Int32) => ([(h, .inr (8, moF b z.2)), ((b 1), .inl (kk 0, 120, .inl tx))] : va_W)) eS.symm) hP) (vD_eq (congrArg (fun z : Int32 × (Nat → Int32) => ([(h, .inr (8, moF b z.2)), ((b 1), .inl (kk 0, 120, .inl tx))] : va_W)) eS.symm) hD) hS (congrArg (fun z : Int32 × (Nat → Int32) => z.1) eS) dX8_temperature_92
def sX8_done_j14 (q : Nat → Int32) (o : Int32) (x_1 : Int32) : Int32 × (Nat → Int32) :=
  (1, (upd q 12 ((q 12) + x_1)))
def sX8_done (q : Nat → Int32) (o : Int32) : Int32 × (Nat → Int32) :=
  (sX8_done_j14 q o (if o = 0 then 1 else 0))
set_option maxRecDepth 100000 in
set_option maxHeartbeats 4000000 in
theorem c_X8_done (l : Launch) (G : va_G) (kk : Nat → ClassId) (h : Nat) (b : Nat → Nat) (q : Nat → Int32) (o : Int32)  : CC l yX8_done cX8_done 2 (some .boolean) (rmO 0 0) [.ref h, .int o] G kk ([(h, .inr (8, moF b q))]) (QI G kk ([(h, .inr (8, moF b ((sX8_done q o).2)))]) ((sX8_done q o).1)) := by
  refine cc_start (by decide +kernel) (Nat.le_of_ble_eq_true rfl) ?_
  intro p e s m below meth c A ls hx hb hr hml hown hts hlocks hA hE hK hP hD hS hl
  have hown : s.vm.findClass RX8 = some m.cls := hown
  have hl : lv_has ls 2 [(0, .ref h), (1, .int o)] := hl
  have eS : sX8_done q o = sX8_done q o := rfl
  refine lv_aload_n hx hb dX8_done_0 rfl (lv_at hl 0 rfl) ?_
  refine lv_dup hx hb dX8_done_1 rfl ?_
  refine r_get (v := .int (q 12)) hx hb hts hown hK hP fl_X8_139 0 rfl rfl dX8_done_2 ?_
  refine lv_iload_n hx hb dX8_done_5 rfl (lv_at hl 1 rfl) ?_
  have J_2 : ∀ (x_1 : Int32) (ex_1 : x_1 = (if o = 0 then 1 else 0)) (eS : sX8_done q o = sX8_done_j14 q o x_1) (H : Heap) (locs : List Loc) (ls : Array Slot) (hP : va_P G vwCl ([(h, .inr (8, moF b q))]) H) (hD : va_D A ([(h, .inr (8, moF b q))])) (hS : va_S A s.heap H locs) (hl : lv_has ls 2 [(0, .ref h), (1, .int o)]), GO p l e (rmO 0 0) s m ([.ref h, .int o] : List Value).toArray below meth c A (QI G kk ([(h, .inr (8, moF b ((sX8_done q o).2)))]) ((sX8_done q o).1)) H locs (F0 m 14 ls [.int x_1, .int (q 12), .ref h]) := by
    intro x_1 ex_1 eS H locs ls hP hD hS hl
    refine lv_iadd hx hb dX8_done_14 ?_
    refine r_put hx hb hts hown hK hP hD hS fl_X8_139 fw_8_12 0 rfl rfl rfl (Nat.le_of_ble_eq_true rfl) dX8_done_15 (fun H locs hP hD hS => ?_)
    replace hP : va_P G vwCl ([(h, .inr (8, moF b (upd q 12 ((q 12) + x_1))))]) H := hP
    replace hD : va_D A ([(h, .inr (8, moF b (upd q 12 ((q 12) + x_1))))]) := hD
    refine lv_iconst (v := 1) hx hb dX8_done_18 (by decide) ?_
    exact fin_z hx hb hr hlocks hK (vP_eq (congrArg (fun z : Int32 × (Nat → Int32) => ([(h, .inr (8, moF b z.2))] : va_W)) eS.symm) hP) (vD_eq (congrArg (fun z : Int32 × (Nat → Int32) => ([(h, .inr (8, moF b z.2))] : va_W)) eS.symm) hD) hS (congrArg (fun z : Int32 × (Nat → Int32) => z.1) eS) rfl dX8_done_19
  refine lv_if_eq (tgt := 13) hx hb dX8_done_6 (by decide) (fun c_6 => ?_) (fun c_6 => ?_)
  · refine lv_iconst (v := 1) hx hb dX8_done_13 (by decide) ?_
    exact J_2 1 (if_pos c_6).symm (eS.trans (cg1 (sX8_done_j14 q o) (if_pos c_6))) _ _ ls hP hD hS (lv_sub hl [0, 1] rfl)
  · refine lv_iconst (v := 0) hx hb dX8_done_9 (by decide) ?_
    refine lv_goto (tgt := 14) hx hb dX8_done_10 (by decide) ?_
    exact J_2 0 (if_neg c_6).symm (eS.trans (cg1 (sX8_done_j14 q o) (if_neg c_6))) _ _ ls hP hD hS (lv_sub hl [0, 1] rfl)
