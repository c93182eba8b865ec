def sX8_refused (q : Nat → Int32) (x : Int32) : Int32 × (Nat → Int32) :=
  (if x ≤ 0 then (0, (upd q 0 x)) else (1, (upd q 0 x)))
set_option maxRecDepth 100000 in
set_option maxHeartbeats 4000000 in
theorem c_X8_refused (l : Launch) (G : va_G) (kk : Nat → ClassId) (h : Nat) (b : Nat → Nat) (q : Nat → Int32) (x : Int32)  : CC l yX8_refused cX8_refused 2 (some .boolean) (rmO 0 0) [.ref h, .int x] G kk ([(h, .inr (8, moF b q))]) (QI G kk ([(h, .inr (8, moF b ((sX8_refused q x).2)))]) ((sX8_refused q x).1)) := by
  refine cc_start (by decide +kernel) (Nat.le_of_ble_eq_true rfl) ?_
  intro p e s m below meth c A ls hx hb hr hml hown hts hlocks hA hE hK hP hD hS hl
  have hown : s.vm.findClass RX8 = some m.cls := hown
  have hl : lv_has ls 2 [(0, .ref h), (1, .int x)] := hl
  have eS : sX8_refused q x = sX8_refused q x := rfl
  refine lv_aload_n hx hb dX8_refused_0 rfl (lv_at hl 0 rfl) ?_
  refine lv_iload_n hx hb dX8_refused_1 rfl (lv_at hl 1 rfl) ?_
  refine r_put hx hb hts hown hK hP hD hS fl_X8_36 fw_8_0 0 rfl rfl rfl (Nat.le_of_ble_eq_true rfl) dX8_refused_2 (fun H locs hP hD hS => ?_)
  replace hP : va_P G vwCl ([(h, .inr (8, moF b (upd q 0 x)))]) H := hP
  replace hD : va_D A ([(h, .inr (8, moF b (upd q 0 x)))]) := hD
  refine lv_iload_n hx hb dX8_refused_5 rfl (lv_at hl 1 rfl) ?_
  refine lv_if_le (tgt := 13) hx hb dX8_refused_6 (by decide) (fun c_6 => ?_) (fun c_6 => ?_)
  · have eS := eS.trans (if_pos c_6)
    refine lv_iconst (v := 0) hx hb dX8_refused_13 (by decide) ?_
    exact fin_z hx hb hr hlocks hK (vP_eq (congrArg (fun z : Int32 × (Nat → Int32) => ([(h, .inr (8, moF b z.2))] : va_W)) eS.symm) hP) (vD_eq (congrArg (fun z : Int32 × (Nat → Int32) => ([(h, .inr (8, moF b z.2))] : va_W)) eS.symm) hD) hS (congrArg (fun z : Int32 × (Nat → Int32) => z.1) eS) rfl dX8_refused_14
  · have eS := eS.trans (if_neg c_6)
    refine lv_iconst (v := 1) hx hb dX8_refused_9 (by decide) ?_
    refine lv_goto (tgt := 14) hx hb dX8_refused_10 (by decide) ?_
    exact fin_z hx hb hr hlocks hK (vP_eq (congrArg (fun z : Int32 × (Nat → Int32) => ([(h, .inr (8, moF b z.2))] : va_W)) eS.symm) hP) (vD_eq (congrArg (fun z : Int32 × (Nat → Int32) => ([(h, .inr (8, moF b z.2))] : va_W)) eS.symm) hD) hS (congrArg (fun z : Int32 × (Nat → Int32) => z.1) eS) rfl dX8_refused_14
def sX8_thrown (q : Nat → Int32) : Int32 :=
  (q 0)
set_option maxRecDepth 100000 in
set_option maxHeartbeats 4000000 in
theorem c_X8_thrown (l : Launch) (G : va_G) (kk : Nat → ClassId) (h : Nat) (b : Nat → Nat) (q : Nat → Int32)  : CC l yX8_thrown cX8_thrown 1 (some .int) (rmO 0 0) [.ref h] G kk ([(h, .inr (8, moF b q))]) (QI G kk ([(h, .inr (8, moF b q))]) (sX8_thrown q)) := by
  refine cc_start (by decide +kernel) (Nat.le_of_ble_eq_true rfl) ?_
  intro p e s m below meth c A ls hx hb hr hml hown hts hlocks hA hE hK hP hD hS hl
  have hown : s.vm.findClass RX8 = some m.cls := hown
  have hl : lv_has ls 1 [(0, .ref h)] := hl
  have eS : sX8_thrown q = sX8_thrown q := rfl
  refine lv_aload_n hx hb dX8_thrown_0 rfl (lv_at hl 0 rfl) ?_
  refine r_get (v := .int (q 0)) hx hb hts hown hK hP fl_X8_36 0 rfl rfl dX8_thrown_1 ?_
  exact fin_i hx hb hr hlocks hK hP hD hS eS dX8_thrown_4
def rfz (x : Int32) : Int32 := if x ≤ 0 then 0 else 1
theorem refused_e (q : Nat → Int32) (x : Int32) : sX8_refused q x = (rfz x, upd q 0 x) := by
  unfold sX8_refused rfz
  split <;> rfl
theorem c_X8_refused9 (l : Launch) (G : va_G) (kk : Nat → ClassId) (h : Nat) (b : Nat → Nat) (q : Nat → Int32) (x : Int32) : CC l yX8_refused cX8_refused 2 (some .boolean) (rmO 0 0) [.ref h, .int x] G kk [(h, .inr (8, moF b q))] (QI G kk [(h, .inr (8, moF b (upd q 0 x)))] (rfz x)) := by
  have h1 := c_X8_refused l G kk h b q x
  rw [refused_e] at h1
  exact h1
theorem in_iff {v lo hi : Int64} : ¬ sX8_in v lo hi = 0 ↔ lo ≤ v ∧ v ≤ hi := by
  unfold sX8_in lg_cmp
  constructor
  · intro h
    by_cases h1 : v < lo
    · have h2 : ¬ v > lo := Int64.not_lt.mpr (Int64.le_of_lt h1)
      have h3 : ¬ v = lo := fun q => by rw [q] at h1; exact absurd h1 (Int64.lt_irrefl)
      rw [if_neg h2, if_neg h3, if_pos (by decide)] at h
      exact absurd rfl h
    · refine ⟨Int64.not_lt.mp h1, ?_⟩
      by_cases h4 : v > hi
      · have e : (if v > hi then (1 : Int32) else if v = hi then 0 else -1) = 1 := if_pos h4
        have e2 : (0 : Int32) < (if v > hi then (1 : Int32) else if v = hi then 0 else -1) := by rw [e]; decide
        rw [if_pos e2, ite_self] at h
        exact absurd rfl h
      · exact Int64.not_lt.mp h4
  · rintro ⟨h1, h2⟩
    have h3 : ¬ (if v > lo then (1 : Int32) else if v = lo then 0 else -1) < 0 := by
      by_cases q : v > lo
      · rw [if_pos q]; decide
      · rw [if_neg q]
        have : v = lo := Int64.le_antisymm (Int64.not_lt.mp q) h1
        rw [if_pos this]; decide
    have h4 : ¬ 0 < (if v > hi then (1 : Int32) else if v = hi then 0 else -1) := by
      by_cases q : v > hi
      · exact absurd h2 (Int64.not_le.mpr q)
      · rw [if_neg q]
        split <;> decide
    rw [if_neg h3, if_neg h4]
    decide
theorem i64_le (a b : Int32) : a.toInt64 ≤ b.toInt64 ↔ a.toInt ≤ b.toInt := by
  rw [Int64.le_iff_toInt_le, Int32.toInt_toInt64, Int32.toInt_toInt64]
theorem in_i {x : Int32} {lo hi : Int64} {a b : Int} (h : ¬ sX8_in x.toInt64 lo hi = 0) (ha : lo.toInt = a) (hb : hi.toInt = b) : a ≤ x.toInt ∧ x.toInt ≤ b := by
  obtain ⟨h1, h2⟩ := in_iff.mp h
  rw [Int64.le_iff_toInt_le, Int32.toInt_toInt64, ha] at h1
  rw [Int64.le_iff_toInt_le, Int32.toInt_toInt64, hb] at h2
  exact ⟨h1, h2⟩
theorem nn_e {x : Int32} (h : 0 ≤ x.toInt) : x = nI x.toNatClampNeg := tc_e (fun q => by
  have := Int32.lt_iff_toInt_lt.mp q
  have e : (0 : Int32).toInt = 0 := rfl
  omega)
theorem nn_l {x : Int32} {n : Nat} (h : x.toInt < n) (hn : 0 < n) : x.toNatClampNeg < n := by
  have e : x.toNatClampNeg = x.toInt.toNat := rfl
  rw [e]
  omega
theorem in_n {x : Int32} {hi : Int64} {n : Nat} (h : ¬ sX8_in x.toInt64 0 hi = 0) (hb : hi.toInt = n) : x = nI x.toNatClampNeg ∧ x.toNatClampNeg < n + 1 := by
  obtain ⟨h1, h2⟩ := in_i (a := 0) (b := n) h rfl hb
  exact ⟨nn_e h1, nn_l (by omega) (by omega)⟩
theorem in_p {x : Int32} {hi : Int64} {n : Nat} (h : ¬ sX8_in x.toInt64 1 hi = 0) (hb : hi.toInt = n) : x = nI x.toNatClampNeg ∧ x.toNatClampNeg < n + 1 := by
  obtain ⟨h1, h2⟩ := in_i (a := 1) (b := n) h rfl hb
  exact ⟨nn_e (by omega), nn_l (by omega) (by omega)⟩
theorem isRoom_in {f : Nat → Int32} {n : Nat} {i : Int32} (hn : f 0 = nI n) (h6 : n ≤ 6) (h : ¬ sX8_isRoom f i = 0) : i = nI i.toNatClampNeg ∧ i.toNatClampNeg < n := by
  unfold sX8_isRoom at h
  rw [hn] at h
  have e : (nI n - 1).toInt64.toInt = (n : Int) - 1 := by
    rw [Int32.toInt_toInt64]
    have h1 : (nI n).toInt = n := nI_toInt (by omega)
    rw [Int32.toInt_sub, h1]
    have h2 : (1 : Int32).toInt = 1 := rfl
    rw [h2, Int.bmod_eq_of_le] <;> omega
  obtain ⟨h1, h2⟩ := in_i (a := 0) (b := (n : Int) - 1) h rfl e
  exact ⟨nn_e h1, nn_l (by omega) (by omega)⟩
theorem r_zast {p : Program} {l : Launch} {e : Env} {R : Room} {s : State} {m : MethodId} {args : Array Value} {below : List Frame} {meth : Method} {c : Code} {H : Heap} {locs : List Loc} {cells slots : Nat} {Q : State → Prop} {cc : ByteArray} {pc : Nat} {ls : Array Slot} {rest : List Value} {G : va_G} {kk : Nat → ClassId} {A : Nat → Prop} {ws : va_W} {a n : Nat} {f : Nat → Int32} {i x : Int32} {H0 : Heap} (hx : p.tables.exec = Jvm.exec) (hb : c.code = cc) (hK : va_K G vwCl (TYS kk) s) (hP : va_P G vwCl ws H) (hD : va_D A ws) (hS : va_S A H0 H locs) (q0 : Nat) (ha : ws[q0]? = some (a, .inl (kk 2, n, .inl f))) (k : Nat) (e1 : i = nI k) (h : k < n) (hn : n < 2 ^ 31) (hz : vp_nar .boolean x = x) (hdg : decode cc pc = .ok (.bastore, 1))
    (kk1 : ∀ (H1 : Heap) (locs1 : List Loc), va_P G vwCl (ws.set q0 (a, .inl (kk 2, n, .inl (upd f k x)))) H1 → va_D A (ws.set q0 (a, .inl (kk 2, n, .inl (upd f k x)))) → va_S A H0 H1 locs1 → W p l e R s m args below meth c H1 locs1 cells slots Q (F0 m (pc + 1) ls rest)) : W p l e R s m args below meth c H locs cells slots Q (F0 m pc ls (.int x :: .int i :: .ref a :: rest)) :=
  va_zast hx hb hK hP hD hS q0 2 ha rfl (ix_in e1 h hn) hdg (by rw [ix_cl e1 h hn, hz]; exact kk1)
theorem cs_0 (f f2 : Nat → Int32) : sX8_copyState 0 0 f f2 0 = f 0 := by
  have key : ∀ (d i : Nat) (f3 : Nat → Int32), i + d = 64 → (0 < i → f3 0 = f 0) → (0 < i ∨ 0 < d) → lp_X8_copyState_3 0 0 f f2 d i f3 0 = f 0 := by
    intro d
    induction d with
    | zero => intro i f3 h1 h2 h3; exact h2 (by omega)
    | succ d ih =>
      intro i f3 h1 h2 h3
      refine ih (i + 1) _ (by omega) (fun _ => ?_) (Or.inl (by omega))
      by_cases hi : i = 0
      · subst hi; rfl
      · exact (pk_un (by omega)).trans (h2 (by omega))
  exact key 64 0 f2 rfl (fun h => absurd h (Nat.lt_irrefl 0)) (Or.inr (by decide))
