theorem mnw_spec0 {jb f : Nat → Int32} {n : Nat} : ∀ (d i : Nat) (w : Option Nat) (k : Nat), i + d = n → (∀ k, w = some k → k < n ∧ jb k = 8) → lp_X8_nextWarm_4 jb f n d i w = some k → k < n ∧ jb k = 8
  | 0, i, w, k, _, hw, h => by
    cases w with
    | none => cases h
    | some j => cases h; exact hw k rfl
  | d + 1, i, w, k, hd, hw, h => by
    have key : ∀ w', (w' = w ∨ (w' = some i ∧ jb i = 8)) → lp_X8_nextWarm_4 jb f n d (i + 1) w' = some k → k < n ∧ jb k = 8 := by
      intro w' h1 h2
      refine mnw_spec0 d (i + 1) w' k (by omega) ?_ h2
      rcases h1 with rfl | ⟨rfl, h3⟩
      · exact hw
      · intro k2 e; cases e; exact ⟨by omega, h3⟩
    unfold lp_X8_nextWarm_4 at h
    cases w with
    | none =>
      simp only [oe] at h
      repeat' split at h
      all_goals first
        | exact key _ (Or.inl rfl) h
        | exact key _ (Or.inr ⟨rfl, by assumption⟩) h
        | (exfalso; simp_all; done)
    | some j =>
      simp only [oe] at h
      repeat' split at h
      all_goals first
        | exact key _ (Or.inl rfl) h
        | exact key _ (Or.inr ⟨rfl, by assumption⟩) h
        | (exfalso; simp_all; done)
theorem mnw_spec {jb f : Nat → Int32} {n k : Nat} (h : sX8_nextWarm jb f n = some k) : k < n ∧ jb k = 8 := mnw_spec0 n 0 none k (Nat.zero_add _) (fun _ h => by cases h) h
theorem mnf_spec0 {jb f : Nat → Int32} {n : Nat} : ∀ (d i : Nat) (w : Option Nat) (k : Nat), i + d = n → (∀ k, w = some k → k < n ∧ jb k = 8) → lp_X8_nextFrost_4 jb f n d i w = some k → k < n ∧ jb k = 8
  | 0, i, w, k, _, hw, h => by
    cases w with
    | none => cases h
    | some j => cases h; exact hw k rfl
  | d + 1, i, w, k, hd, hw, h => by
    have key : ∀ w', (w' = w ∨ (w' = some i ∧ jb i = 8)) → lp_X8_nextFrost_4 jb f n d (i + 1) w' = some k → k < n ∧ jb k = 8 := by
      intro w' h1 h2
      refine mnf_spec0 d (i + 1) w' k (by omega) ?_ h2
      rcases h1 with rfl | ⟨rfl, h3⟩
      · exact hw
      · intro k2 e; cases e; exact ⟨by omega, h3⟩
    unfold lp_X8_nextFrost_4 at h
    cases w with
    | none =>
      simp only [oe] at h
      repeat' split at h
      all_goals first
        | exact key _ (Or.inl rfl) h
        | exact key _ (Or.inr ⟨rfl, by assumption⟩) h
        | (exfalso; simp_all; done)
    | some j =>
      simp only [oe] at h
      repeat' split at h
      all_goals first
        | exact key _ (Or.inl rfl) h
        | exact key _ (Or.inr ⟨rfl, by assumption⟩) h
        | (exfalso; simp_all; done)
theorem mnf_spec {jb f : Nat → Int32} {n k : Nat} (h : sX8_nextFrost jb f n = some k) : k < n ∧ jb k = 8 := mnf_spec0 n 0 none k (Nat.zero_add _) (fun _ h => by cases h) h
/-- how many jobs are open -/
def oc (jb : Nat → Int32) : Nat → Nat
  | 0 => 0
  | n + 1 => oc jb n + (if jb n = 8 then 1 else 0)
theorem oc_le (jb : Nat → Int32) : ∀ n, oc jb n ≤ n
  | 0 => Nat.le_refl 0
  | n + 1 => by
    have h := oc_le jb n
    show oc jb n + (if jb n = 8 then 1 else 0) ≤ n + 1
    split <;> omega
theorem oc_out {jb : Nat → Int32} {k : Nat} {x : Int32} : ∀ {n : Nat}, n ≤ k → oc (upd jb k x) n = oc jb n
  | 0, _ => rfl
  | n + 1, h => by
    show oc (upd jb k x) n + (if upd jb k x n = 8 then 1 else 0) = oc jb n + (if jb n = 8 then 1 else 0)
    rw [oc_out (by omega), pk_un (by omega)]
theorem oc_dec {jb : Nat → Int32} {k : Nat} {x : Int32} : ∀ {n : Nat}, k < n → jb k = 8 → ¬ x = 8 → oc (upd jb k x) n + 1 = oc jb n
  | 0, h, _, _ => by omega
  | n + 1, h, h8, hx => by
    show oc (upd jb k x) n + (if upd jb k x n = 8 then 1 else 0) + 1 = oc jb n + (if jb n = 8 then 1 else 0)
    by_cases hk : k = n
    · subst hk
      rw [oc_out (Nat.le_refl _), pk_us, if_neg hx, if_pos h8]
    · rw [pk_un (fun q => hk q.symm)]
      have := oc_dec (n := n) (by omega) h8 hx
      omega
theorem oc_step {jb : Nat → Int32} {k n d : Nat} {x : Int32} (h : oc jb n < d + 1) (hk : k < n) (h8 : jb k = 8) (hx : ¬ x = 8) : oc (upd jb k x) n < d := by
  have := oc_dec hk h8 hx
  omega
theorem oc_7 {jb : Nat → Int32} {n : Nat} (h : n ≤ 6) : oc jb n < 7 := Nat.lt_of_le_of_lt (oc_le jb n) (by omega)
def lp_X8_find_149 (q : Nat → Int32) (jb : Nat → Int32) (f : Nat → Int32) (n : Nat) (z_1 : (Nat → Int32) × (Nat → Int32)) (q2 : Nat → Int32) (jb2 : Nat → Int32) (q3 : Nat → Int32) (jb3 : Nat → Int32) : Nat → Nat → (Nat → Int32) → (Nat → Int32) × (Nat → Int32)
  | 0, i, jb1 => (q3, jb1)
  | d + 1, i, jb1 => ((fun (x_2 : Int32) => (lp_X8_find_149 q jb f n z_1 q2 jb2 q3 jb3 d (i + 1) (upd jb1 i x_2))) (if (jb1 i) = 8 then 7 else (jb1 i)))
def sX8_find_x147 (q : Nat → Int32) (jb : Nat → Int32) (f : Nat → Int32) (n : Nat) (z_1 : (Nat → Int32) × (Nat → Int32)) (q2 : Nat → Int32) (jb2 : Nat → Int32) (q3 : Nat → Int32) (jb3 : Nat → Int32) : (Nat → Int32) × (Nat → Int32) :=
  (lp_X8_find_149 q jb f n z_1 q2 jb2 q3 jb3 n 0 jb3)
def lp_X8_find_86 (q : Nat → Int32) (jb : Nat → Int32) (f : Nat → Int32) (n : Nat) (z_1 : (Nat → Int32) × (Nat → Int32)) (q2 : Nat → Int32) (jb2 : Nat → Int32) : Nat → Option Nat → (Nat → Int32) → (Nat → Int32) → (Nat → Int32) × (Nat → Int32)
  | 0, w, q1, jb1 => (q1, jb1)
  | d + 1, w, q1, jb1 => (oe w (sX8_find_x147 q jb f n z_1 q2 jb2 q1 jb1) (fun k_3 => ((fun (x_4 : Int32) => ((fun (x_5 : Int32) => (lp_X8_find_86 q jb f n z_1 q2 jb2 d (sX8_nextFrost (upd jb1 k_3 x_4) f n) (upd q1 10 ((q1 10) + x_5)) (upd jb1 k_3 x_4))) (if (sX8_fits q1 f (f 13)) = 0 then 0 else (f 13)))) (if (sX8_fits q1 f (f 13)) = 0 then 6 else 5))))
def sX8_find_x80 (q : Nat → Int32) (jb : Nat → Int32) (f : Nat → Int32) (n : Nat) (z_1 : (Nat → Int32) × (Nat → Int32)) (q2 : Nat → Int32) (jb2 : Nat → Int32) : (Nat → Int32) × (Nat → Int32) :=
  (lp_X8_find_86 q jb f n z_1 q2 jb2 7 (sX8_nextFrost jb2 f n) q2 jb2)
def lp_X8_find_16 (q : Nat → Int32) (jb : Nat → Int32) (f : Nat → Int32) (n : Nat) (z_1 : (Nat → Int32) × (Nat → Int32)) : Nat → Option Nat → (Nat → Int32) → (Nat → Int32) → (Nat → Int32) × (Nat → Int32)
  | 0, w, q1, jb1 => (q1, jb1)
  | d + 1, w, q1, jb1 => (oe w (sX8_find_x80 q jb f n z_1 q1 jb1) (fun k_6 => ((fun (x_7 : Int32) => ((fun (x_8 : Int32) => (lp_X8_find_16 q jb f n z_1 d (sX8_nextWarm (upd jb1 k_6 x_7) f n) (upd q1 10 ((q1 10) + x_8)) (upd jb1 k_6 x_7))) (if (sX8_fits q1 f (sX8_of f k_6 0)) = 0 then 0 else (sX8_of f k_6 0)))) (if (sX8_fits q1 f (sX8_of f k_6 0)) = 0 then 4 else 3))))
def sX8_find_z_1 (q : Nat → Int32) (jb : Nat → Int32) (f : Nat → Int32) (n : Nat) (z_1 : (Nat → Int32) × (Nat → Int32)) : (Nat → Int32) × (Nat → Int32) :=
  (lp_X8_find_16 q jb f n z_1 7 (sX8_nextWarm z_1.2 f n) z_1.1 z_1.2)
def sX8_find (q : Nat → Int32) (jb : Nat → Int32) (f : Nat → Int32) (n : Nat) : (Nat → Int32) × (Nat → Int32) :=
  (sX8_find_z_1 q jb f n (sX8_must (upd q 10 0) jb f n))
set_option maxRecDepth 100000 in
set_option maxHeartbeats 4000000 in
theorem c_X8_find (l : Launch) (G : va_G) (kk : Nat → ClassId) (h : Nat) (b : Nat → Nat) (q : Nat → Int32) (jb : Nat → Int32) (ra : Nat) (f : Nat → Int32) (n : Nat) (hn : f 0 = nI n) (h6 : n ≤ 6) : CC l yX8_find cX8_find 4 none (rmO 3 67) [.ref h, .ref ra] G kk ([(h, .inr (8, moF b q)), ((b 7), .inl (kk 0, 6, .inl jb)), (ra, .inl (kk 0, 64, .inl f))]) (QV G kk ([(h, .inr (8, moF b ((sX8_find q jb f n).1))), ((b 7), .inl (kk 0, 6, .inl ((sX8_find q jb f n).2))), (ra, .inl (kk 0, 64, .inl f))])) := by
  refine cc_start (by decide +kernel) (Nat.le_of_ble_eq_true rfl) ?_
  intro p e s m below meth c A ls hx hb hr hml hown hts hlocks hA hE hK hP hD hS hl
  have hown : s.vm.findClass RX8 = some m.cls := hown
  have hl : lv_has ls 4 [(0, .ref h), (1, .ref ra)] := hl
  have eS : sX8_find q jb f n = sX8_find q jb f n := rfl
  refine lv_aload_n hx hb dX8_find_0 rfl (lv_at hl 0 rfl) ?_
  refine lv_iconst (v := 0) hx hb dX8_find_1 (by decide) ?_
  refine r_put hx hb hts hown hK hP hD hS fl_X8_48 fw_8_10 0 rfl rfl rfl (Nat.le_of_ble_eq_true rfl) dX8_find_2 (fun H locs hP hD hS => ?_)
  replace hP : va_P G vwCl ([(h, .inr (8, moF b (upd q 10 0))), ((b 7), .inl (kk 0, 6, .inl jb)), (ra, .inl (kk 0, 64, .inl f))]) H := hP
  replace hD : va_D A ([(h, .inr (8, moF b (upd q 10 0))), ((b 7), .inl (kk 0, 6, .inl jb)), (ra, .inl (kk 0, 64, .inl f))]) := hD
  refine lv_aload_n hx hb dX8_find_5 rfl (lv_at hl 0 rfl) ?_
  refine lv_aload_n hx hb dX8_find_6 rfl (lv_at hl 1 rfl) ?_
  refine k_goV (k_runV (rest := []) (As := [.ref ra]) hx hb hml hown hts hK hP hD hS hA hE hl.1 (c_X8_must l G kk h b (upd q 10 0) jb ra f n (by omega) (by omega)) vl_X8_63 rfl rfl rfl ⟨Nat.le_of_ble_eq_true rfl, Nat.le_of_ble_eq_true rfl, rfl, rfl⟩ [0, 1, 2] rfl rfl ⟨Nat.zero_le _, Nat.zero_le _⟩ rfl (Nat.le_of_ble_eq_true rfl) dX8_find_7) hP hD hS hA [0, 1, 2] rfl ads3 (fun H locs hP hD hS => ?_)
  replace hP : va_P G vwCl ([(h, .inr (8, moF b ((sX8_must (upd q 10 0) jb f n).1))), ((b 7), .inl (kk 0, 6, .inl ((sX8_must (upd q 10 0) jb f n).2))), (ra, .inl (kk 0, 64, .inl f))]) H := hP
  replace hD : va_D A ([(h, .inr (8, moF b ((sX8_must (upd q 10 0) jb f n).1))), ((b 7), .inl (kk 0, 6, .inl ((sX8_must (upd q 10 0) jb f n).2))), (ra, .inl (kk 0, 64, .inl f))]) := hD
  have eS : sX8_find q jb f n = sX8_find_z_1 q jb f n (sX8_must (upd q 10 0) jb f n) := eS
  generalize sX8_must (upd q 10 0) jb f n = z_1 at hP hD eS ⊢
  refine lv_aload_n hx hb dX8_find_10 rfl (lv_at hl 0 rfl) ?_
  refine lv_aload_n hx hb dX8_find_11 rfl (lv_at hl 1 rfl) ?_
  refine k_goI (k_runV (rest := []) (As := [.ref ra]) hx hb hml hown hts hK hP hD hS hA hE hl.1 (c_X8_nextWarm l G kk h b z_1.1 z_1.2 ra f n (by omega) (by omega)) vl_X8_66 rfl rfl rfl ⟨Nat.le_of_ble_eq_true rfl, Nat.le_of_ble_eq_true rfl, rfl, rfl⟩ [0, 1, 2] rfl rfl ⟨Nat.zero_le _, Nat.zero_le _⟩ rfl (Nat.le_of_ble_eq_true rfl) dX8_find_12) hP hD hS hA [0, 1, 2] rfl ads3 (fun H locs hP hD hS => ?_)
  replace hP : va_P G vwCl ([(h, .inr (8, moF b z_1.1)), ((b 7), .inl (kk 0, 6, .inl z_1.2)), (ra, .inl (kk 0, 64, .inl f))]) H := hP
  replace hD : va_D A ([(h, .inr (8, moF b z_1.1)), ((b 7), .inl (kk 0, 6, .inl z_1.2)), (ra, .inl (kk 0, 64, .inl f))]) := hD
  refine lv_istore_n (lv' := [(2, .int (ob (sX8_nextWarm z_1.2 f n))), (0, .ref h), (1, .ref ra)]) hx hb dX8_find_15 rfl hl (by decide) rfl (fun ls hl => ?_)
  have X_10 : ∀ (q2 : Nat → Int32) (jb2 : Nat → Int32)  (eS : sX8_find q jb f n = sX8_find_x80 q jb f n z_1 q2 jb2) (H : Heap) (locs : List Loc) (ls : Array Slot) (hP : va_P G vwCl ([(h, .inr (8, moF b q2)), ((b 7), .inl (kk 0, 6, .inl jb2)), (ra, .inl (kk 0, 64, .inl f))]) H) (hD : va_D A ([(h, .inr (8, moF b q2)), ((b 7), .inl (kk 0, 6, .inl jb2)), (ra, .inl (kk 0, 64, .inl f))])) (hS : va_S A s.heap H locs) (hl : lv_has ls 4 [(0, .ref h), (1, .ref ra)]), GO p l e (rmO 3 67) s m ([.ref h, .ref ra] : List Value).toArray below meth c A (QV G kk ([(h, .inr (8, moF b ((sX8_find q jb f n).1))), ((b 7), .inl (kk 0, 6, .inl ((sX8_find q jb f n).2))), (ra, .inl (kk 0, 64, .inl f))])) H locs (F0 m 80 ls []) := by
    intro q2 jb2  eS H locs ls hP hD hS hl
    refine lv_aload_n hx hb dX8_find_80 rfl (lv_at hl 0 rfl) ?_
    refine lv_aload_n hx hb dX8_find_81 rfl (lv_at hl 1 rfl) ?_
    refine k_goI (k_runV (rest := []) (As := [.ref ra]) hx hb hml hown hts hK hP hD hS hA hE hl.1 (c_X8_nextFrost l G kk h b q2 jb2 ra f n (by omega) (by omega)) vl_X8_72 rfl rfl rfl ⟨Nat.le_of_ble_eq_true rfl, Nat.le_of_ble_eq_true rfl, rfl, rfl⟩ [0, 1, 2] rfl rfl ⟨Nat.zero_le _, Nat.zero_le _⟩ rfl (Nat.le_of_ble_eq_true rfl) dX8_find_82) hP hD hS hA [0, 1, 2] rfl ads3 (fun H locs hP hD hS => ?_)
    replace hP : va_P G vwCl ([(h, .inr (8, moF b q2)), ((b 7), .inl (kk 0, 6, .inl jb2)), (ra, .inl (kk 0, 64, .inl f))]) H := hP
    replace hD : va_D A ([(h, .inr (8, moF b q2)), ((b 7), .inl (kk 0, 6, .inl jb2)), (ra, .inl (kk 0, 64, .inl f))]) := hD
    refine lv_istore_n (lv' := [(2, .int (ob (sX8_nextFrost jb2 f n))), (0, .ref h), (1, .ref ra)]) hx hb dX8_find_85 rfl hl (by decide) rfl (fun ls hl => ?_)
    have X_12 : ∀ (q3 : Nat → Int32) (jb3 : Nat → Int32)  (eS : sX8_find q jb f n = sX8_find_x147 q jb f n z_1 q2 jb2 q3 jb3) (H : Heap) (locs : List Loc) (ls : Array Slot) (hP : va_P G vwCl ([(h, .inr (8, moF b q3)), ((b 7), .inl (kk 0, 6, .inl jb3)), (ra, .inl (kk 0, 64, .inl f))]) H) (hD : va_D A ([(h, .inr (8, moF b q3)), ((b 7), .inl (kk 0, 6, .inl jb3)), (ra, .inl (kk 0, 64, .inl f))])) (hS : va_S A s.heap H locs) (hl : lv_has ls 4 [(0, .ref h), (1, .ref ra)]), GO p l e (rmO 3 67) s m ([.ref h, .ref ra] : List Value).toArray below meth c A (QV G kk ([(h, .inr (8, moF b ((sX8_find q jb f n).1))), ((b 7), .inl (kk 0, 6, .inl ((sX8_find q jb f n).2))), (ra, .inl (kk 0, 64, .inl f))])) H locs (F0 m 147 ls []) := by
      intro q3 jb3  eS H locs ls hP hD hS hl
      refine lv_iconst (v := 0) hx hb dX8_find_147 (by decide) ?_
      refine lv_istore_n (lv' := [(3, .int 0), (0, .ref h), (1, .ref ra)]) hx hb dX8_find_148 rfl hl (by decide) rfl (fun ls hl => ?_)
      have L_13 : ∀ (d : Nat) (i : Nat) (jb1 : Nat → Int32) (hd : i + d = n) (eS : sX8_find q jb f n = lp_X8_find_149 q jb f n z_1 q2 jb2 q3 jb3 d i jb1) (H : Heap) (locs : List Loc) (ls : Array Slot) (hP : va_P G vwCl ([(h, .inr (8, moF b q3)), ((b 7), .inl (kk 0, 6, .inl jb1)), (ra, .inl (kk 0, 64, .inl f))]) H) (hD : va_D A ([(h, .inr (8, moF b q3)), ((b 7), .inl (kk 0, 6, .inl jb1)), (ra, .inl (kk 0, 64, .inl f))])) (hS : va_S A s.heap H locs) (hl : lv_has ls 4 [(0, .ref h), (1, .ref ra), (3, .int (nI i))]), GO p l e (rmO 3 67) s m ([.ref h, .ref ra] : List Value).toArray below meth c A (QV G kk ([(h, .inr (8, moF b ((sX8_find q jb f n).1))), ((b 7), .inl (kk 0, 6, .inl ((sX8_find q jb f n).2))), (ra, .inl (kk 0, 64, .inl f))])) H locs (F0 m 149 ls []) := by
        intro d
        induction d with
        | zero =>
          intro i jb1 hd eS H locs ls hP hD hS hl
          refine lv_iload_n hx hb dX8_find_149 rfl (lv_at hl 2 rfl) ?_
          refine lv_aload_n hx hb dX8_find_150 rfl (lv_at hl 1 rfl) ?_
          refine lv_iconst (v := 0) hx hb dX8_find_151 (by decide) ?_
          refine r_iald hx hb hK hP 2 rfl 0 rfl (by decide) (by decide) dX8_find_152 ?_
          refine lv_icmp_ge (tgt := 190) hx hb dX8_find_153 (by decide) (fun c_153 => ?_) (fun c_153 => absurd (fle hn (by omega) (by omega)) c_153)
          exact fin_v hx hb hr hlocks hK (vP_eq (congrArg (fun z : (Nat → Int32) × (Nat → Int32) => ([(h, .inr (8, moF b z.1)), ((b 7), .inl (kk 0, 6, .inl z.2)), (ra, .inl (kk 0, 64, .inl f))] : va_W)) eS.symm) hP) (vD_eq (congrArg (fun z : (Nat → Int32) × (Nat → Int32) => ([(h, .inr (8, moF b z.1)), ((b 7), .inl (kk 0, 6, .inl z.2)), (ra, .inl (kk 0, 64, .inl f))] : va_W)) eS.symm) hD) hS dX8_find_190
        | succ d ih =>
          intro i jb1 hd eS H locs ls hP hD hS hl
          refine lv_iload_n hx hb dX8_find_149 rfl (lv_at hl 2 rfl) ?_
          refine lv_aload_n hx hb dX8_find_150 rfl (lv_at hl 1 rfl) ?_
          refine lv_iconst (v := 0) hx hb dX8_find_151 (by decide) ?_
          refine r_iald hx hb hK hP 2 rfl 0 rfl (by decide) (by decide) dX8_find_152 ?_
          refine lv_icmp_ge (tgt := 190) hx hb dX8_find_153 (by decide) (fun c_153 => absurd c_153 (fgt hn (by omega) (by omega))) (fun c_153 => ?_)
          refine lv_aload_n hx hb dX8_find_156 rfl (lv_at hl 0 rfl) ?_
          refine r_get (v := .ref (b 7)) hx hb hts hown hK hP fl_X8_29 0 rfl rfl dX8_find_157 ?_
          refine lv_iload_n hx hb dX8_find_160 rfl (lv_at hl 2 rfl) ?_
          refine lv_aload_n hx hb dX8_find_161 rfl (lv_at hl 0 rfl) ?_
          refine r_get (v := .ref (b 7)) hx hb hts hown hK hP fl_X8_29 0 rfl rfl dX8_find_162 ?_
          refine lv_iload_n hx hb dX8_find_165 rfl (lv_at hl 2 rfl) ?_
          refine r_iald hx hb hK hP 1 rfl i rfl (by omega) (by decide) dX8_find_166 ?_
          refine lv_bipush (v := 8) hx hb dX8_find_167 (by decide) ?_
          have J_14 : ∀ (x_2 : Int32) (ex_2 : x_2 = (if (jb1 i) = 8 then 7 else (jb1 i))) (eS : sX8_find q jb f n = (fun (x_2 : Int32) => (lp_X8_find_149 q jb f n z_1 q2 jb2 q3 jb3 d (i + 1) (upd jb1 i x_2))) x_2) (H : Heap) (locs : List Loc) (ls : Array Slot) (hP : va_P G vwCl ([(h, .inr (8, moF b q3)), ((b 7), .inl (kk 0, 6, .inl jb1)), (ra, .inl (kk 0, 64, .inl f))]) H) (hD : va_D A ([(h, .inr (8, moF b q3)), ((b 7), .inl (kk 0, 6, .inl jb1)), (ra, .inl (kk 0, 64, .inl f))])) (hS : va_S A s.heap H locs) (hl : lv_has ls 4 [(0, .ref h), (1, .ref ra), (3, .int (nI i))]), GO p l e (rmO 3 67) s m ([.ref h, .ref ra] : List Value).toArray below meth c A (QV G kk ([(h, .inr (8, moF b ((sX8_find q jb f n).1))), ((b 7), .inl (kk 0, 6, .inl ((sX8_find q jb f n).2))), (ra, .inl (kk 0, 64, .inl f))])) H locs (F0 m 183 ls [.int x_2, .int (nI i), .ref (b 7)]) := by
            intro x_2 ex_2 eS H locs ls hP hD hS hl
            refine r_iast hx hb hK hP hD hS 1 rfl i rfl (by omega) (by decide) dX8_find_183 (fun H locs hP hD hS => ?_)
            replace hP : va_P G vwCl ([(h, .inr (8, moF b q3)), ((b 7), .inl (kk 0, 6, .inl (upd jb1 i x_2))), (ra, .inl (kk 0, 64, .inl f))]) H := hP
            replace hD : va_D A ([(h, .inr (8, moF b q3)), ((b 7), .inl (kk 0, 6, .inl (upd jb1 i x_2))), (ra, .inl (kk 0, 64, .inl f))]) := hD
            refine lv_iinc (v := (nI (i + 1))) (lv' := [(3, .int (nI (i + 1))), (0, .ref h), (1, .ref ra)]) hx hb dX8_find_184 hl (k := 2) rfl (nI_add i 1) (by decide) rfl (fun ls hl => ?_)
            refine lv_goto (tgt := 149) hx hb dX8_find_187 (by decide) ?_
            exact ih (i + 1) (upd jb1 i x_2) (by omega) eS _ _ ls hP hD hS (lv_sub hl [1, 2, 0] rfl)
          refine lv_icmp_ne (tgt := 177) hx hb dX8_find_169 (by decide) (fun c_169 => ?_) (fun c_169 => ?_)
          · refine lv_aload_n hx hb dX8_find_177 rfl (lv_at hl 0 rfl) ?_
            refine r_get (v := .ref (b 7)) hx hb hts hown hK hP fl_X8_29 0 rfl rfl dX8_find_178 ?_
            refine lv_iload_n hx hb dX8_find_181 rfl (lv_at hl 2 rfl) ?_
            refine r_iald hx hb hK hP 1 rfl i rfl (by omega) (by decide) dX8_find_182 ?_
            exact J_14 (jb1 i) (if_neg c_169).symm (eS.trans (cg1 ((fun (x_2 : Int32) => (lp_X8_find_149 q jb f n z_1 q2 jb2 q3 jb3 d (i + 1) (upd jb1 i x_2)))) (if_neg c_169))) _ _ ls hP hD hS (lv_sub hl [0, 1, 2] rfl)
          · refine lv_bipush (v := 7) hx hb dX8_find_172 (by decide) ?_
            refine lv_goto (tgt := 183) hx hb dX8_find_174 (by decide) ?_
            exact J_14 7 (if_pos c_169).symm (eS.trans (cg1 ((fun (x_2 : Int32) => (lp_X8_find_149 q jb f n z_1 q2 jb2 q3 jb3 d (i + 1) (upd jb1 i x_2)))) (if_pos c_169))) _ _ ls hP hD hS (lv_sub hl [0, 1, 2] rfl)
      exact L_13 n 0 jb3 (Nat.zero_add _) eS _ _ ls hP hD hS (lv_sub hl [1, 2, 0] rfl)
    have L_11 : ∀ (d : Nat) (w : Option Nat) (q1 : Nat → Int32) (jb1 : Nat → Int32) (hc : oc jb1 n < d) (hw : ∀ k, w = some k → k < n ∧ jb1 k = 8) (eS : sX8_find q jb f n = lp_X8_find_86 q jb f n z_1 q2 jb2 d w q1 jb1) (H : Heap) (locs : List Loc) (ls : Array Slot) (hP : va_P G vwCl ([(h, .inr (8, moF b q1)), ((b 7), .inl (kk 0, 6, .inl jb1)), (ra, .inl (kk 0, 64, .inl f))]) H) (hD : va_D A ([(h, .inr (8, moF b q1)), ((b 7), .inl (kk 0, 6, .inl jb1)), (ra, .inl (kk 0, 64, .inl f))])) (hS : va_S A s.heap H locs) (hl : lv_has ls 4 [(0, .ref h), (1, .ref ra), (2, .int (ob w))]), GO p l e (rmO 3 67) s m ([.ref h, .ref ra] : List Value).toArray below meth c A (QV G kk ([(h, .inr (8, moF b ((sX8_find q jb f n).1))), ((b 7), .inl (kk 0, 6, .inl ((sX8_find q jb f n).2))), (ra, .inl (kk 0, 64, .inl f))])) H locs (F0 m 86 ls []) := by
      intro d
      induction d with
      | zero =>
        intro w q1 jb1 hc hw eS H locs ls hP hD hS hl
        exact absurd hc (Nat.not_lt_zero _)
      | succ d ih =>
        intro w q1 jb1 hc hw eS H locs ls hP hD hS hl
        rcases opt_or w with rfl | ⟨k_3, rfl⟩
        · have hl : lv_has ls 4 [(0, .ref h), (1, .ref ra), (2, .int (-1))] := hl
          have eS := eS.trans (oe_n rfl)
          refine lv_iload_n hx hb dX8_find_86 rfl (lv_at hl 2 rfl) ?_
          refine lv_iconst (v := (-1)) hx hb dX8_find_87 (by decide) ?_
          refine lv_icmp_eq (tgt := 147) hx hb dX8_find_88 (by decide) (fun c_88 => ?_) (fun c_88 => absurd (by decide) c_88)
          exact X_12 q1 jb1  eS _ _ ls hP hD hS (lv_sub hl [0, 1] rfl)
        · have hl : lv_has ls 4 [(0, .ref h), (1, .ref ra), (2, .int (nI k_3))] := hl
          have hk_3 := hw k_3 rfl
          have eS := eS.trans (oe_s rfl)
          refine lv_iload_n hx hb dX8_find_86 rfl (lv_at hl 2 rfl) ?_
          refine lv_iconst (v := (-1)) hx hb dX8_find_87 (by decide) ?_
          refine lv_icmp_eq (tgt := 147) hx hb dX8_find_88 (by decide) (fun c_88 => absurd c_88 (nI_nm1 (by omega))) (fun c_88 => ?_)
          refine lv_aload_n hx hb dX8_find_91 rfl (lv_at hl 0 rfl) ?_
          refine lv_aload_n hx hb dX8_find_92 rfl (lv_at hl 1 rfl) ?_
          refine lv_aload_n hx hb dX8_find_93 rfl (lv_at hl 1 rfl) ?_
          refine lv_bipush (v := 13) hx hb dX8_find_94 (by decide) ?_
          refine r_iald hx hb hK hP 2 rfl 13 rfl (by decide) (by decide) dX8_find_96 ?_
          refine k_goI (k_runV (rest := []) (As := [.ref ra, .int (f 13)]) hx hb hml hown hts hK hP hD hS hA hE hl.1 (c_X8_fits l G kk h b q1 ra f (f 13) ) vl_X8_69 rfl rfl rfl ⟨Nat.le_of_ble_eq_true rfl, Nat.le_of_ble_eq_true rfl, rfl, rfl⟩ [0, 2] rfl rfl ⟨Nat.zero_le _, Nat.zero_le _⟩ rfl (Nat.le_of_ble_eq_true rfl) dX8_find_97) hP hD hS hA [0, 2] rfl ads2 (fun H locs hP hD hS => ?_)
          replace hP : va_P G vwCl ([(h, .inr (8, moF b q1)), ((b 7), .inl (kk 0, 6, .inl jb1)), (ra, .inl (kk 0, 64, .inl f))]) H := hP
          replace hD : va_D A ([(h, .inr (8, moF b q1)), ((b 7), .inl (kk 0, 6, .inl jb1)), (ra, .inl (kk 0, 64, .inl f))]) := hD
          refine lv_istore_n (lv' := [(3, .int (sX8_fits q1 f (f 13))), (0, .ref h), (1, .ref ra), (2, .int (nI k_3))]) hx hb dX8_find_100 rfl hl (by decide) rfl (fun ls hl => ?_)
          refine lv_aload_n hx hb dX8_find_101 rfl (lv_at hl 1 rfl) ?_
          refine r_get (v := .ref (b 7)) hx hb hts hown hK hP fl_X8_29 0 rfl rfl dX8_find_102 ?_
          refine lv_iload_n hx hb dX8_find_105 rfl (lv_at hl 3 rfl) ?_
          refine lv_iload_n hx hb dX8_find_106 rfl (lv_at hl 0 rfl) ?_
          have J_15 : ∀ (x_4 : Int32) (ex_4 : x_4 = (if (sX8_fits q1 f (f 13)) = 0 then 6 else 5)) (eS : sX8_find q jb f n = (fun (x_4 : Int32) => ((fun (x_5 : Int32) => (lp_X8_find_86 q jb f n z_1 q2 jb2 d (sX8_nextFrost (upd jb1 k_3 x_4) f n) (upd q1 10 ((q1 10) + x_5)) (upd jb1 k_3 x_4))) (if (sX8_fits q1 f (f 13)) = 0 then 0 else (f 13)))) x_4) (H : Heap) (locs : List Loc) (ls : Array Slot) (hP : va_P G vwCl ([(h, .inr (8, moF b q1)), ((b 7), .inl (kk 0, 6, .inl jb1)), (ra, .inl (kk 0, 64, .inl f))]) H) (hD : va_D A ([(h, .inr (8, moF b q1)), ((b 7), .inl (kk 0, 6, .inl jb1)), (ra, .inl (kk 0, 64, .inl f))])) (hS : va_S A s.heap H locs) (hl : lv_has ls 4 [(3, .int (sX8_fits q1 f (f 13))), (0, .ref h), (1, .ref ra), (2, .int (nI k_3))]), GO p l e (rmO 3 67) s m ([.ref h, .ref ra] : List Value).toArray below meth c A (QV G kk ([(h, .inr (8, moF b ((sX8_find q jb f n).1))), ((b 7), .inl (kk 0, 6, .inl ((sX8_find q jb f n).2))), (ra, .inl (kk 0, 64, .inl f))])) H locs (F0 m 116 ls [.int x_4, .int (nI k_3), .ref (b 7)]) := by
            intro x_4 ex_4 eS H locs ls hP hD hS hl
            refine r_iast hx hb hK hP hD hS 1 rfl k_3 rfl (by omega) (by decide) dX8_find_116 (fun H locs hP hD hS => ?_)
            replace hP : va_P G vwCl ([(h, .inr (8, moF b q1)), ((b 7), .inl (kk 0, 6, .inl (upd jb1 k_3 x_4))), (ra, .inl (kk 0, 64, .inl f))]) H := hP
            replace hD : va_D A ([(h, .inr (8, moF b q1)), ((b 7), .inl (kk 0, 6, .inl (upd jb1 k_3 x_4))), (ra, .inl (kk 0, 64, .inl f))]) := hD
            refine lv_aload_n hx hb dX8_find_117 rfl (lv_at hl 1 rfl) ?_
            refine lv_dup hx hb dX8_find_118 rfl ?_
            refine r_get (v := .int (q1 10)) hx hb hts hown hK hP fl_X8_48 0 rfl rfl dX8_find_119 ?_
            refine lv_iload_n hx hb dX8_find_122 rfl (lv_at hl 0 rfl) ?_
            have J_16 : ∀ (x_5 : Int32) (ex_5 : x_5 = (if (sX8_fits q1 f (f 13)) = 0 then 0 else (f 13))) (eS : sX8_find q jb f n = (fun (x_5 : Int32) => (lp_X8_find_86 q jb f n z_1 q2 jb2 d (sX8_nextFrost (upd jb1 k_3 x_4) f n) (upd q1 10 ((q1 10) + x_5)) (upd jb1 k_3 x_4))) x_5) (H : Heap) (locs : List Loc) (ls : Array Slot) (hP : va_P G vwCl ([(h, .inr (8, moF b q1)), ((b 7), .inl (kk 0, 6, .inl (upd jb1 k_3 x_4))), (ra, .inl (kk 0, 64, .inl f))]) H) (hD : va_D A ([(h, .inr (8, moF b q1)), ((b 7), .inl (kk 0, 6, .inl (upd jb1 k_3 x_4))), (ra, .inl (kk 0, 64, .inl f))])) (hS : va_S A s.heap H locs) (hl : lv_has ls 4 [(3, .int (sX8_fits q1 f (f 13))), (0, .ref h), (1, .ref ra), (2, .int (nI k_3))]), GO p l e (rmO 3 67) s m ([.ref h, .ref ra] : List Value).toArray below meth c A (QV G kk ([(h, .inr (8, moF b ((sX8_find q jb f n).1))), ((b 7), .inl (kk 0, 6, .inl ((sX8_find q jb f n).2))), (ra, .inl (kk 0, 64, .inl f))])) H locs (F0 m 134 ls [.int x_5, .int (q1 10), .ref h]) := by
              intro x_5 ex_5 eS H locs ls hP hD hS hl
              refine lv_iadd hx hb dX8_find_134 ?_
              refine r_put hx hb hts hown hK hP hD hS fl_X8_48 fw_8_10 0 rfl rfl rfl (Nat.le_of_ble_eq_true rfl) dX8_find_135 (fun H locs hP hD hS => ?_)
              replace hP : va_P G vwCl ([(h, .inr (8, moF b (upd q1 10 ((q1 10) + x_5)))), ((b 7), .inl (kk 0, 6, .inl (upd jb1 k_3 x_4))), (ra, .inl (kk 0, 64, .inl f))]) H := hP
              replace hD : va_D A ([(h, .inr (8, moF b (upd q1 10 ((q1 10) + x_5)))), ((b 7), .inl (kk 0, 6, .inl (upd jb1 k_3 x_4))), (ra, .inl (kk 0, 64, .inl f))]) := hD
              refine lv_aload_n hx hb dX8_find_138 rfl (lv_at hl 1 rfl) ?_
              refine lv_aload_n hx hb dX8_find_139 rfl (lv_at hl 2 rfl) ?_
              refine k_goI (k_runV (rest := []) (As := [.ref ra]) hx hb hml hown hts hK hP hD hS hA hE hl.1 (c_X8_nextFrost l G kk h b (upd q1 10 ((q1 10) + x_5)) (upd jb1 k_3 x_4) ra f n (by omega) (by omega)) vl_X8_72 rfl rfl rfl ⟨Nat.le_of_ble_eq_true rfl, Nat.le_of_ble_eq_true rfl, rfl, rfl⟩ [0, 1, 2] rfl rfl ⟨Nat.zero_le _, Nat.zero_le _⟩ rfl (Nat.le_of_ble_eq_true rfl) dX8_find_140) hP hD hS hA [0, 1, 2] rfl ads3 (fun H locs hP hD hS => ?_)
              replace hP : va_P G vwCl ([(h, .inr (8, moF b (upd q1 10 ((q1 10) + x_5)))), ((b 7), .inl (kk 0, 6, .inl (upd jb1 k_3 x_4))), (ra, .inl (kk 0, 64, .inl f))]) H := hP
              replace hD : va_D A ([(h, .inr (8, moF b (upd q1 10 ((q1 10) + x_5)))), ((b 7), .inl (kk 0, 6, .inl (upd jb1 k_3 x_4))), (ra, .inl (kk 0, 64, .inl f))]) := hD
              refine lv_istore_n (lv' := [(2, .int (ob (sX8_nextFrost (upd jb1 k_3 x_4) f n))), (3, .int (sX8_fits q1 f (f 13))), (0, .ref h), (1, .ref ra)]) hx hb dX8_find_143 rfl hl (by decide) rfl (fun ls hl => ?_)
              refine lv_goto (tgt := 86) hx hb dX8_find_144 (by decide) ?_
              exact ih (sX8_nextFrost (upd jb1 k_3 x_4) f n) (upd q1 10 ((q1 10) + x_5)) (upd jb1 k_3 x_4) (oc_step hc hk_3.1 hk_3.2 (by rw [ex_4]; split <;> decide)) (fun k h => mnf_spec h) eS _ _ ls hP hD hS (lv_sub hl [2, 3, 0] rfl)
            refine lv_if_eq (tgt := 133) hx hb dX8_find_123 (by decide) (fun c_123 => ?_) (fun c_123 => ?_)
            · refine lv_iconst (v := 0) hx hb dX8_find_133 (by decide) ?_
              exact J_16 0 (if_pos c_123).symm (eS.trans (cg1 ((fun (x_5 : Int32) => (lp_X8_find_86 q jb f n z_1 q2 jb2 d (sX8_nextFrost (upd jb1 k_3 x_4) f n) (upd q1 10 ((q1 10) + x_5)) (upd jb1 k_3 x_4)))) (if_pos c_123))) _ _ ls hP hD hS (lv_sub hl [0, 1, 2, 3] rfl)
            · refine lv_aload_n hx hb dX8_find_126 rfl (lv_at hl 2 rfl) ?_
              refine lv_bipush (v := 13) hx hb dX8_find_127 (by decide) ?_
              refine r_iald hx hb hK hP 2 rfl 13 rfl (by decide) (by decide) dX8_find_129 ?_
              refine lv_goto (tgt := 134) hx hb dX8_find_130 (by decide) ?_
              exact J_16 (f 13) (if_neg c_123).symm (eS.trans (cg1 ((fun (x_5 : Int32) => (lp_X8_find_86 q jb f n z_1 q2 jb2 d (sX8_nextFrost (upd jb1 k_3 x_4) f n) (upd q1 10 ((q1 10) + x_5)) (upd jb1 k_3 x_4)))) (if_neg c_123))) _ _ ls hP hD hS (lv_sub hl [0, 1, 2, 3] rfl)
          refine lv_if_eq (tgt := 114) hx hb dX8_find_107 (by decide) (fun c_107 => ?_) (fun c_107 => ?_)
          · refine lv_bipush (v := 6) hx hb dX8_find_114 (by decide) ?_
            exact J_15 6 (if_pos c_107).symm (eS.trans (cg1 ((fun (x_4 : Int32) => ((fun (x_5 : Int32) => (lp_X8_find_86 q jb f n z_1 q2 jb2 d (sX8_nextFrost (upd jb1 k_3 x_4) f n) (upd q1 10 ((q1 10) + x_5)) (upd jb1 k_3 x_4))) (if (sX8_fits q1 f (f 13)) = 0 then 0 else (f 13))))) (if_pos c_107))) _ _ ls hP hD hS (lv_sub hl [0, 1, 2, 3] rfl)
          · refine lv_iconst (v := 5) hx hb dX8_find_110 (by decide) ?_
            refine lv_goto (tgt := 116) hx hb dX8_find_111 (by decide) ?_
            exact J_15 5 (if_neg c_107).symm (eS.trans (cg1 ((fun (x_4 : Int32) => ((fun (x_5 : Int32) => (lp_X8_find_86 q jb f n z_1 q2 jb2 d (sX8_nextFrost (upd jb1 k_3 x_4) f n) (upd q1 10 ((q1 10) + x_5)) (upd jb1 k_3 x_4))) (if (sX8_fits q1 f (f 13)) = 0 then 0 else (f 13))))) (if_neg c_107))) _ _ ls hP hD hS (lv_sub hl [0, 1, 2, 3] rfl)
    exact L_11 7 (sX8_nextFrost jb2 f n) q2 jb2 (oc_7 h6) (fun k h => mnf_spec h) eS _ _ ls hP hD hS (lv_sub hl [1, 2, 0] rfl)
  have L_9 : ∀ (d : Nat) (w : Option Nat) (q1 : Nat → Int32) (jb1 : Nat → Int32) (hc : oc jb1 n < d) (hw : ∀ k, w = some k → k < n ∧ jb1 k = 8) (eS : sX8_find q jb f n = lp_X8_find_16 q jb f n z_1 d w q1 jb1) (H : Heap) (locs : List Loc) (ls : Array Slot) (hP : va_P G vwCl ([(h, .inr (8, moF b q1)), ((b 7), .inl (kk 0, 6, .inl jb1)), (ra, .inl (kk 0, 64, .inl f))]) H) (hD : va_D A ([(h, .inr (8, moF b q1)), ((b 7), .inl (kk 0, 6, .inl jb1)), (ra, .inl (kk 0, 64, .inl f))])) (hS : va_S A s.heap H locs) (hl : lv_has ls 4 [(0, .ref h), (1, .ref ra), (2, .int (ob w))]), GO p l e (rmO 3 67) s m ([.ref h, .ref ra] : List Value).toArray below meth c A (QV G kk ([(h, .inr (8, moF b ((sX8_find q jb f n).1))), ((b 7), .inl (kk 0, 6, .inl ((sX8_find q jb f n).2))), (ra, .inl (kk 0, 64, .inl f))])) H locs (F0 m 16 ls []) := by
    intro d
    induction d with
    | zero =>
      intro w q1 jb1 hc hw eS H locs ls hP hD hS hl
      exact absurd hc (Nat.not_lt_zero _)
    | succ d ih =>
      intro w q1 jb1 hc hw eS H locs ls hP hD hS hl
      rcases opt_or w with rfl | ⟨k_6, rfl⟩
      · have hl : lv_has ls 4 [(0, .ref h), (1, .ref ra), (2, .int (-1))] := hl
        have eS := eS.trans (oe_n rfl)
        refine lv_iload_n hx hb dX8_find_16 rfl (lv_at hl 2 rfl) ?_
        refine lv_iconst (v := (-1)) hx hb dX8_find_17 (by decide) ?_
        refine lv_icmp_eq (tgt := 80) hx hb dX8_find_18 (by decide) (fun c_18 => ?_) (fun c_18 => absurd (by decide) c_18)
        exact X_10 q1 jb1  eS _ _ ls hP hD hS (lv_sub hl [0, 1] rfl)
      · have hl : lv_has ls 4 [(0, .ref h), (1, .ref ra), (2, .int (nI k_6))] := hl
        have hk_6 := hw k_6 rfl
        have eS := eS.trans (oe_s rfl)
        refine lv_iload_n hx hb dX8_find_16 rfl (lv_at hl 2 rfl) ?_
        refine lv_iconst (v := (-1)) hx hb dX8_find_17 (by decide) ?_
        refine lv_icmp_eq (tgt := 80) hx hb dX8_find_18 (by decide) (fun c_18 => absurd c_18 (nI_nm1 (by omega))) (fun c_18 => ?_)
        refine lv_aload_n hx hb dX8_find_21 rfl (lv_at hl 0 rfl) ?_
        refine lv_aload_n hx hb dX8_find_22 rfl (lv_at hl 1 rfl) ?_
        refine lv_aload_n hx hb dX8_find_23 rfl (lv_at hl 1 rfl) ?_
        refine lv_iload_n hx hb dX8_find_24 rfl (lv_at hl 2 rfl) ?_
        refine lv_iconst (v := 0) hx hb dX8_find_25 (by decide) ?_
        refine k_goI (k_runS (rest := [.ref ra, .ref h]) (As := [.ref ra, .int (nI k_6), .int 0]) hx hb hml hown hts hK hP hD hS hA hE hl.1 (c_X8_of l G kk ra f k_6 0 (by omega)) sl_X8_44 ⟨Nat.le_of_ble_eq_true rfl, Nat.le_of_ble_eq_true rfl, rfl, rfl⟩ [2] rfl rfl ⟨Nat.zero_le _, Nat.zero_le _⟩ rfl (Nat.le_of_ble_eq_true rfl) dX8_find_26) hP hD hS hA [2] rfl ads1 (fun H locs hP hD hS => ?_)
        replace hP : va_P G vwCl ([(h, .inr (8, moF b q1)), ((b 7), .inl (kk 0, 6, .inl jb1)), (ra, .inl (kk 0, 64, .inl f))]) H := hP
        replace hD : va_D A ([(h, .inr (8, moF b q1)), ((b 7), .inl (kk 0, 6, .inl jb1)), (ra, .inl (kk 0, 64, .inl f))]) := hD
        refine k_goI (k_runV (rest := []) (As := [.ref ra, .int (sX8_of f k_6 0)]) hx hb hml hown hts hK hP hD hS hA hE hl.1 (c_X8_fits l G kk h b q1 ra f (sX8_of f k_6 0) ) vl_X8_69 rfl rfl rfl ⟨Nat.le_of_ble_eq_true rfl, Nat.le_of_ble_eq_true rfl, rfl, rfl⟩ [0, 2] rfl rfl ⟨Nat.zero_le _, Nat.zero_le _⟩ rfl (Nat.le_of_ble_eq_true rfl) dX8_find_29) hP hD hS hA [0, 2] rfl ads2 (fun H locs hP hD hS => ?_)
        replace hP : va_P G vwCl ([(h, .inr (8, moF b q1)), ((b 7), .inl (kk 0, 6, .inl jb1)), (ra, .inl (kk 0, 64, .inl f))]) H := hP
        replace hD : va_D A ([(h, .inr (8, moF b q1)), ((b 7), .inl (kk 0, 6, .inl jb1)), (ra, .inl (kk 0, 64, .inl f))]) := hD
        refine lv_istore_n (lv' := [(3, .int (sX8_fits q1 f (sX8_of f k_6 0))), (0, .ref h), (1, .ref ra), (2, .int (nI k_6))]) hx hb dX8_find_32 rfl hl (by decide) rfl (fun ls hl => ?_)
        refine lv_aload_n hx hb dX8_find_33 rfl (lv_at hl 1 rfl) ?_
        refine r_get (v := .ref (b 7)) hx hb hts hown hK hP fl_X8_29 0 rfl rfl dX8_find_34 ?_
        refine lv_iload_n hx hb dX8_find_37 rfl (lv_at hl 3 rfl) ?_
        refine lv_iload_n hx hb dX8_find_38 rfl (lv_at hl 0 rfl) ?_
        have J_17 : ∀ (x_7 : Int32) (ex_7 : x_7 = (if (sX8_fits q1 f (sX8_of f k_6 0)) = 0 then 4 else 3)) (eS : sX8_find q jb f n = (fun (x_7 : Int32) => ((fun (x_8 : Int32) => (lp_X8_find_16 q jb f n z_1 d (sX8_nextWarm (upd jb1 k_6 x_7) f n) (upd q1 10 ((q1 10) + x_8)) (upd jb1 k_6 x_7))) (if (sX8_fits q1 f (sX8_of f k_6 0)) = 0 then 0 else (sX8_of f k_6 0)))) x_7) (H : Heap) (locs : List Loc) (ls : Array Slot) (hP : va_P G vwCl ([(h, .inr (8, moF b q1)), ((b 7), .inl (kk 0, 6, .inl jb1)), (ra, .inl (kk 0, 64, .inl f))]) H) (hD : va_D A ([(h, .inr (8, moF b q1)), ((b 7), .inl (kk 0, 6, .inl jb1)), (ra, .inl (kk 0, 64, .inl f))])) (hS : va_S A s.heap H locs) (hl : lv_has ls 4 [(3, .int (sX8_fits q1 f (sX8_of f k_6 0))), (0, .ref h), (1, .ref ra), (2, .int (nI k_6))]), GO p l e (rmO 3 67) s m ([.ref h, .ref ra] : List Value).toArray below meth c A (QV G kk ([(h, .inr (8, moF b ((sX8_find q jb f n).1))), ((b 7), .inl (kk 0, 6, .inl ((sX8_find q jb f n).2))), (ra, .inl (kk 0, 64, .inl f))])) H locs (F0 m 47 ls [.int x_7, .int (nI k_6), .ref (b 7)]) := by
          intro x_7 ex_7 eS H locs ls hP hD hS hl
          refine r_iast hx hb hK hP hD hS 1 rfl k_6 rfl (by omega) (by decide) dX8_find_47 (fun H locs hP hD hS => ?_)
          replace hP : va_P G vwCl ([(h, .inr (8, moF b q1)), ((b 7), .inl (kk 0, 6, .inl (upd jb1 k_6 x_7))), (ra, .inl (kk 0, 64, .inl f))]) H := hP
          replace hD : va_D A ([(h, .inr (8, moF b q1)), ((b 7), .inl (kk 0, 6, .inl (upd jb1 k_6 x_7))), (ra, .inl (kk 0, 64, .inl f))]) := hD
          refine lv_aload_n hx hb dX8_find_48 rfl (lv_at hl 1 rfl) ?_
          refine lv_dup hx hb dX8_find_49 rfl ?_
          refine r_get (v := .int (q1 10)) hx hb hts hown hK hP fl_X8_48 0 rfl rfl dX8_find_50 ?_
          refine lv_iload_n hx hb dX8_find_53 rfl (lv_at hl 0 rfl) ?_
          have J_18 : ∀ (x_8 : Int32) (ex_8 : x_8 = (if (sX8_fits q1 f (sX8_of f k_6 0)) = 0 then 0 else (sX8_of f k_6 0))) (eS : sX8_find q jb f n = (fun (x_8 : Int32) => (lp_X8_find_16 q jb f n z_1 d (sX8_nextWarm (upd jb1 k_6 x_7) f n) (upd q1 10 ((q1 10) + x_8)) (upd jb1 k_6 x_7))) x_8) (H : Heap) (locs : List Loc) (ls : Array Slot) (hP : va_P G vwCl ([(h, .inr (8, moF b q1)), ((b 7), .inl (kk 0, 6, .inl (upd jb1 k_6 x_7))), (ra, .inl (kk 0, 64, .inl f))]) H) (hD : va_D A ([(h, .inr (8, moF b q1)), ((b 7), .inl (kk 0, 6, .inl (upd jb1 k_6 x_7))), (ra, .inl (kk 0, 64, .inl f))])) (hS : va_S A s.heap H locs) (hl : lv_has ls 4 [(3, .int (sX8_fits q1 f (sX8_of f k_6 0))), (0, .ref h), (1, .ref ra), (2, .int (nI k_6))]), GO p l e (rmO 3 67) s m ([.ref h, .ref ra] : List Value).toArray below meth c A (QV G kk ([(h, .inr (8, moF b ((sX8_find q jb f n).1))), ((b 7), .inl (kk 0, 6, .inl ((sX8_find q jb f n).2))), (ra, .inl (kk 0, 64, .inl f))])) H locs (F0 m 67 ls [.int x_8, .int (q1 10), .ref h]) := by
            intro x_8 ex_8 eS H locs ls hP hD hS hl
            refine lv_iadd hx hb dX8_find_67 ?_
            refine r_put hx hb hts hown hK hP hD hS fl_X8_48 fw_8_10 0 rfl rfl rfl (Nat.le_of_ble_eq_true rfl) dX8_find_68 (fun H locs hP hD hS => ?_)
            replace hP : va_P G vwCl ([(h, .inr (8, moF b (upd q1 10 ((q1 10) + x_8)))), ((b 7), .inl (kk 0, 6, .inl (upd jb1 k_6 x_7))), (ra, .inl (kk 0, 64, .inl f))]) H := hP
            replace hD : va_D A ([(h, .inr (8, moF b (upd q1 10 ((q1 10) + x_8)))), ((b 7), .inl (kk 0, 6, .inl (upd jb1 k_6 x_7))), (ra, .inl (kk 0, 64, .inl f))]) := hD
            refine lv_aload_n hx hb dX8_find_71 rfl (lv_at hl 1 rfl) ?_
            refine lv_aload_n hx hb dX8_find_72 rfl (lv_at hl 2 rfl) ?_
            refine k_goI (k_runV (rest := []) (As := [.ref ra]) hx hb hml hown hts hK hP hD hS hA hE hl.1 (c_X8_nextWarm l G kk h b (upd q1 10 ((q1 10) + x_8)) (upd jb1 k_6 x_7) ra f n (by omega) (by omega)) vl_X8_66 rfl rfl rfl ⟨Nat.le_of_ble_eq_true rfl, Nat.le_of_ble_eq_true rfl, rfl, rfl⟩ [0, 1, 2] rfl rfl ⟨Nat.zero_le _, Nat.zero_le _⟩ rfl (Nat.le_of_ble_eq_true rfl) dX8_find_73) hP hD hS hA [0, 1, 2] rfl ads3 (fun H locs hP hD hS => ?_)
            replace hP : va_P G vwCl ([(h, .inr (8, moF b (upd q1 10 ((q1 10) + x_8)))), ((b 7), .inl (kk 0, 6, .inl (upd jb1 k_6 x_7))), (ra, .inl (kk 0, 64, .inl f))]) H := hP
            replace hD : va_D A ([(h, .inr (8, moF b (upd q1 10 ((q1 10) + x_8)))), ((b 7), .inl (kk 0, 6, .inl (upd jb1 k_6 x_7))), (ra, .inl (kk 0, 64, .inl f))]) := hD
            refine lv_istore_n (lv' := [(2, .int (ob (sX8_nextWarm (upd jb1 k_6 x_7) f n))), (3, .int (sX8_fits q1 f (sX8_of f k_6 0))), (0, .ref h), (1, .ref ra)]) hx hb dX8_find_76 rfl hl (by decide) rfl (fun ls hl => ?_)
            refine lv_goto (tgt := 16) hx hb dX8_find_77 (by decide) ?_
            exact ih (sX8_nextWarm (upd jb1 k_6 x_7) f n) (upd q1 10 ((q1 10) + x_8)) (upd jb1 k_6 x_7) (oc_step hc hk_6.1 hk_6.2 (by rw [ex_7]; split <;> decide)) (fun k h => mnw_spec h) eS _ _ ls hP hD hS (lv_sub hl [2, 3, 0] rfl)
          refine lv_if_eq (tgt := 66) hx hb dX8_find_54 (by decide) (fun c_54 => ?_) (fun c_54 => ?_)
          · refine lv_iconst (v := 0) hx hb dX8_find_66 (by decide) ?_
            exact J_18 0 (if_pos c_54).symm (eS.trans (cg1 ((fun (x_8 : Int32) => (lp_X8_find_16 q jb f n z_1 d (sX8_nextWarm (upd jb1 k_6 x_7) f n) (upd q1 10 ((q1 10) + x_8)) (upd jb1 k_6 x_7)))) (if_pos c_54))) _ _ ls hP hD hS (lv_sub hl [0, 1, 2, 3] rfl)
          · refine lv_aload_n hx hb dX8_find_57 rfl (lv_at hl 2 rfl) ?_
            refine lv_iload_n hx hb dX8_find_58 rfl (lv_at hl 3 rfl) ?_
            refine lv_iconst (v := 0) hx hb dX8_find_59 (by decide) ?_
            refine k_goI (k_runS (rest := [.int (q1 10), .ref h]) (As := [.ref ra, .int (nI k_6), .int 0]) hx hb hml hown hts hK hP hD hS hA hE hl.1 (c_X8_of l G kk ra f k_6 0 (by omega)) sl_X8_44 ⟨Nat.le_of_ble_eq_true rfl, Nat.le_of_ble_eq_true rfl, rfl, rfl⟩ [2] rfl rfl ⟨Nat.zero_le _, Nat.zero_le _⟩ rfl (Nat.le_of_ble_eq_true rfl) dX8_find_60) hP hD hS hA [2] rfl ads1 (fun H locs hP hD hS => ?_)
            replace hP : va_P G vwCl ([(h, .inr (8, moF b q1)), ((b 7), .inl (kk 0, 6, .inl (upd jb1 k_6 x_7))), (ra, .inl (kk 0, 64, .inl f))]) H := hP
            replace hD : va_D A ([(h, .inr (8, moF b q1)), ((b 7), .inl (kk 0, 6, .inl (upd jb1 k_6 x_7))), (ra, .inl (kk 0, 64, .inl f))]) := hD
            refine lv_goto (tgt := 67) hx hb dX8_find_63 (by decide) ?_
            exact J_18 (sX8_of f k_6 0) (if_neg c_54).symm (eS.trans (cg1 ((fun (x_8 : Int32) => (lp_X8_find_16 q jb f n z_1 d (sX8_nextWarm (upd jb1 k_6 x_7) f n) (upd q1 10 ((q1 10) + x_8)) (upd jb1 k_6 x_7)))) (if_neg c_54))) _ _ ls hP hD hS (lv_sub hl [0, 1, 2, 3] rfl)
        refine lv_if_eq (tgt := 46) hx hb dX8_find_39 (by decide) (fun c_39 => ?_) (fun c_39 => ?_)
        · refine lv_iconst (v := 4) hx hb dX8_find_46 (by decide) ?_
          exact J_17 4 (if_pos c_39).symm (eS.trans (cg1 ((fun (x_7 : Int32) => ((fun (x_8 : Int32) => (lp_X8_find_16 q jb f n z_1 d (sX8_nextWarm (upd jb1 k_6 x_7) f n) (upd q1 10 ((q1 10) + x_8)) (upd jb1 k_6 x_7))) (if (sX8_fits q1 f (sX8_of f k_6 0)) = 0 then 0 else (sX8_of f k_6 0))))) (if_pos c_39))) _ _ ls hP hD hS (lv_sub hl [0, 1, 2, 3] rfl)
        · refine lv_iconst (v := 3) hx hb dX8_find_42 (by decide) ?_
          refine lv_goto (tgt := 47) hx hb dX8_find_43 (by decide) ?_
          exact J_17 3 (if_neg c_39).symm (eS.trans (cg1 ((fun (x_7 : Int32) => ((fun (x_8 : Int32) => (lp_X8_find_16 q jb f n z_1 d (sX8_nextWarm (upd jb1 k_6 x_7) f n) (upd q1 10 ((q1 10) + x_8)) (upd jb1 k_6 x_7))) (if (sX8_fits q1 f (sX8_of f k_6 0)) = 0 then 0 else (sX8_of f k_6 0))))) (if_neg c_39))) _ _ ls hP hD hS (lv_sub hl [0, 1, 2, 3] rfl)
  exact L_9 7 (sX8_nextWarm z_1.2 f n) z_1.1 z_1.2 (oc_7 h6) (fun k h => mnw_spec h) eS _ _ ls hP hD hS (lv_sub hl [1, 2, 0] rfl)
