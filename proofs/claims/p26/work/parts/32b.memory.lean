theorem fo_p0 {q : Nat → Int32} {r : Nat → Nat} : ∀ (d i : Nat) (r1 : Nat → Nat), i + d = 14 → 1 ≤ i → (∀ j, j < 14 → r1 j < 14) → (lp_X0_forgetOldest_2 q r d i r1).1 = upd q 1 (q 1 - 1) ∧ ∀ j, j < 14 → (lp_X0_forgetOldest_2 q r d i r1).2 j < 14
  | 0, _, _, _, _, h => ⟨rfl, h⟩
  | d + 1, i, r1, hd, h1, h => fo_p0 d (i + 1) _ (by omega) (by omega) (fo_h h h1 (by omega))
theorem fo_p (q : Nat → Int32) (r : Nat → Nat) (hr : ∀ j, j < 14 → r j < 14) : (sX0_forgetOldest q r).1 = upd q 1 (q 1 - 1) ∧ ∀ j, j < 14 → (sX0_forgetOldest q r).2 j < 14 := fo_p0 13 1 r (by decide) (Nat.le_refl 1) hr
theorem setMany_app : ∀ (is1 : List Nat) (w1 ws : va_W) (is2 : List Nat) (w2 : va_W), is1.length = w1.length → setMany ws (is1 ++ is2) (w1 ++ w2) = setMany (setMany ws is1 w1) is2 w2
  | [], [], _, _, _, _ => by simp [setMany]
  | [], _ :: _, _, _, _, h => by cases h
  | _ :: _, [], _, _, _, h => by cases h
  | i :: is, x :: xs, ws, is2, w2, h => setMany_app is xs (ws.set i x) is2 w2 (Nat.succ.inj h)
theorem nd_app1 : ∀ (k n m j : Nat), n + k ≤ m → va_nd (List.range' n k ++ List.range' m j) = true
  | 0, n, m, j, _ => nd_range j m
  | k + 1, n, m, j, h => by
    rw [List.range'_succ, List.cons_append]
    simp only [va_nd, Bool.and_eq_true, decide_eq_true_eq]
    exact ⟨by simp; omega, nd_app1 k (n + 1) m j (by omega)⟩
theorem nd_app2 : ∀ (j m k n : Nat), n + k ≤ m → va_nd (List.range' m j ++ List.range' n k) = true
  | 0, m, k, n, _ => nd_range k n
  | j + 1, m, k, n, h => by
    rw [List.range'_succ, List.cons_append]
    simp only [va_nd, Bool.and_eq_true, decide_eq_true_eq]
    exact ⟨by simp; omega, nd_app2 j (m + 1) k n (by omega)⟩
section STS
variable {kk : Nat → ClassId} {ma : Nat → Nat → Nat} {G U : Nat → Nat → Int32} {RV : Nat → Nat → Nat → Int32} {x y : Nat × va_E} {p : Nat}
theorem sts_split : ∀ (n i p : Nat), p < n → stsF kk ma G U RV i n = stsF kk ma G U RV i p ++ (stW kk (ma (i + p)) (G (i + p)) (U (i + p)) (RV (i + p)) ++ stsF kk ma G U RV (i + p + 1) (n - 1 - p))
  | 0, _, _, h => absurd h (Nat.not_lt_zero _)
  | n + 1, i, 0, _ => rfl
  | n + 1, i, p + 1, h => by
    show stW kk (ma i) (G i) (U i) (RV i) ++ stsF kk ma G U RV (i + 1) n = (stW kk (ma i) (G i) (U i) (RV i) ++ stsF kk ma G U RV (i + 1) p) ++ _
    rw [sts_split n (i + 1) p (by omega), List.append_assoc, show i + 1 + p = i + (p + 1) by omega, show n - 1 - p = n + 1 - 1 - (p + 1) by omega]
theorem sts_out {g' u' : Nat → Int32} {rv' : Nat → Nat → Int32} : ∀ (n i : Nat), (p < i ∨ i + n ≤ p) → stsF kk ma (updR G p g') (updR U p u') (updS RV p rv') i n = stsF kk ma G U RV i n
  | 0, _, _ => rfl
  | n + 1, i, h => by
    show stW kk (ma i) (updR G p g' i) (updR U p u' i) (updS RV p rv' i) ++ _ = stW kk (ma i) (G i) (U i) (RV i) ++ _
    have e : i ≠ p := by omega
    rw [sts_out n (i + 1) (by omega), updR_n e, updR_n e, show updS RV p rv' i = RV i from if_neg e]
theorem rem_C1 {post : va_W} (h : p < 14) : (List.range' (2 + 9 * p) 9).map (fun i => ([x, y] ++ (stsF kk ma G U RV 0 14 ++ post))[i]?) = (stW kk (ma p) (G p) (U p) (RV p)).map some := by
  have e := blk_map ([x, y] ++ stsF kk ma G U RV 0 p) (stW kk (ma p) (G p) (U p) (RV p)) (stsF kk ma G U RV (p + 1) (14 - 1 - p) ++ post) (2 + 9 * p) (by rw [List.length_append, stsF_len]; rfl)
  rw [st_len] at e
  rw [sts_split 14 0 p h, Nat.zero_add]
  simp only [List.append_assoc] at e ⊢
  exact e
theorem rem_C2 {w : va_W} (hw : w.length = 9) : (List.range' 128 9).map (fun i => ([x, y] ++ (stsF kk ma G U RV 0 14 ++ w))[i]?) = w.map some := by
  have e := blk_map ([x, y] ++ stsF kk ma G U RV 0 14) w [] 128 (by rw [List.length_append, stsF_len]; rfl)
  rw [hw, List.append_nil, List.append_assoc] at e
  exact e
theorem rem_S1 {post : va_W} (h : p < 14) (g' u' : Nat → Int32) (rv' : Nat → Nat → Int32) : setMany ([x, y] ++ (stsF kk ma G U RV 0 14 ++ post)) (List.range' (2 + 9 * p) 9) (stW kk (ma p) g' u' rv') = [x, y] ++ (stsF kk ma (updR G p g') (updR U p u') (updS RV p rv') 0 14 ++ post) := by
  have e := blk_set (stW kk (ma p) (G p) (U p) (RV p)) (stW kk (ma p) g' u' rv') (stsF kk ma G U RV (p + 1) (14 - 1 - p) ++ post) rfl ([x, y] ++ stsF kk ma G U RV 0 p) (2 + 9 * p) (by rw [List.length_append, stsF_len]; rfl)
  rw [st_len] at e
  rw [sts_split 14 0 p h, sts_split (G := updR G p g') (U := updR U p u') (RV := updS RV p rv') 14 0 p h, Nat.zero_add, sts_out p 0 (by omega), sts_out _ (p + 1) (by omega), updR_s, updR_s, show updS RV p rv' p = rv' from if_pos rfl]
  simp only [List.append_assoc] at e ⊢
  exact e
theorem rem_S2 {w w' : va_W} (hw : w.length = 9) (hw' : w'.length = 9) : setMany ([x, y] ++ (stsF kk ma G U RV 0 14 ++ w)) (List.range' 128 9) w' = [x, y] ++ (stsF kk ma G U RV 0 14 ++ w') := by
  have e := blk_set w w' [] (hw'.trans hw.symm) ([x, y] ++ stsF kk ma G U RV 0 14) 128 (by rw [List.length_append, stsF_len]; rfl)
  rw [hw, List.append_nil, List.append_nil, List.append_assoc, List.append_assoc] at e
  exact e
theorem updS_id : updS RV p (RV p) = RV := by
  funext j
  unfold updS
  by_cases h : j = p
  · rw [if_pos h, h]
  · rw [if_neg h]
variable {a2 : Nat → Nat} {g2 u2 g' u' : Nat → Int32} {rv2 rv' : Nat → Nat → Int32}
theorem rem_C (h : p < 14) : (List.range' (2 + 9 * p) 9 ++ List.range' 128 9).map (fun i => ([x, y] ++ (stsF kk ma G U RV 0 14 ++ stW kk a2 g2 u2 rv2))[i]?) = (stW kk (ma p) (G p) (U p) (RV p) ++ stW kk a2 g2 u2 rv2).map some := by
  rw [List.map_append, rem_C1 h, rem_C2 st_len, List.map_append]
theorem tb_C (h : p < 14) : (List.range' 128 9 ++ List.range' (2 + 9 * p) 9).map (fun i => ([x, y] ++ (stsF kk ma G U RV 0 14 ++ stW kk a2 g2 u2 rv2))[i]?) = (stW kk a2 g2 u2 rv2 ++ stW kk (ma p) (G p) (U p) (RV p)).map some := by
  rw [List.map_append, rem_C1 h, rem_C2 st_len, List.map_append]
theorem rem_eq (h : p < 14) : setMany ([x, y] ++ (stsF kk ma G U RV 0 14 ++ stW kk a2 g2 u2 rv2)) (List.range' (2 + 9 * p) 9 ++ List.range' 128 9) (stW kk (ma p) g' u' rv' ++ stW kk a2 g2 u2 rv2) = [x, y] ++ (stsF kk ma (updR G p g') (updR U p u') (updS RV p rv') 0 14 ++ stW kk a2 g2 u2 rv2) := by
  rw [setMany_app _ _ _ _ _ rfl, rem_S1 h, rem_S2 st_len st_len]
theorem tb_eq (h : p < 14) : setMany ([x, y] ++ (stsF kk ma G U RV 0 14 ++ stW kk a2 g2 u2 rv2)) (List.range' 128 9 ++ List.range' (2 + 9 * p) 9) (stW kk a2 g' u' rv' ++ stW kk (ma p) (G p) (U p) (RV p)) = [x, y] ++ (stsF kk ma G U RV 0 14 ++ stW kk a2 g' u' rv') := by
  rw [setMany_app _ _ _ _ _ rfl, rem_S2 st_len st_len, rem_S1 h, updR_id, updR_id, updS_id]
theorem rem_len {x y : Nat × va_E} : ([x, y] ++ stsF kk ma G U RV 0 14).length = 128 := by
  rw [List.length_append, stsF_len]; rfl
theorem fo_C {post : va_W} : (List.range' 0 128).map (fun i => ([x, y] ++ (stsF kk ma G U RV 0 14 ++ post))[i]?) = ([x, y] ++ stsF kk ma G U RV 0 14).map some := by
  have e := blk_map [] ([x, y] ++ stsF kk ma G U RV 0 14) post 0 rfl
  rw [rem_len, List.nil_append, List.append_assoc] at e
  exact e
theorem fo_eq {post : va_W} {x' y' : Nat × va_E} : setMany ([x, y] ++ (stsF kk ma G U RV 0 14 ++ post)) (List.range' 0 128) ([x', y'] ++ stsF kk ma G U RV 0 14) = [x', y'] ++ (stsF kk ma G U RV 0 14 ++ post) := by
  have e := blk_set ([x, y] ++ stsF kk ma G U RV 0 14) ([x', y'] ++ stsF kk ma G U RV 0 14) post (rem_len.trans rem_len.symm) [] 0 rfl
  rw [rem_len, List.nil_append, List.nil_append, List.append_assoc, List.append_assoc] at e
  exact e
end STS
theorem me_l {c : Nat} (h : nI c < nI 14) (hc : c ≤ 14) : c < 14 := (nI_ltI (by omega) (by decide)).mp h
theorem me_13 {q : Nat → Int32} {c : Nat} (hq : q 1 = nI c) (h : ¬ nI c < nI 14) (hc : c ≤ 14) : q 1 - 1 = 13 := by
  have : c = 14 := by
    rcases Nat.lt_or_ge c 14 with r | r
    · exact absurd (nI_lt r (by decide)) h
    · omega
  rw [hq, this]
  rfl
def sX0_remember_z_1 (q : Nat → Int32) (r : Nat → Nat) (mg : Nat → Nat → Int32) (mu : Nat → Nat → Int32) (mr : Nat → Nat → Nat → Int32) (g2 : Nat → Int32) (u2 : Nat → Int32) (rv2 : Nat → Nat → Int32) (cc : Nat) (z_1 : (Nat → Int32) × (Nat → Int32) × (Nat → Nat → Int32)) : (Nat → Int32) × (Nat → Nat) × (Nat → Nat → Int32) × (Nat → Nat → Int32) × (Nat → Nat → Nat → Int32) :=
  ((upd q 1 (nI (cc + 1))), r, (updR mg (r cc) z_1.1), (updR mu (r cc) z_1.2.1), (updS mr (r cc) z_1.2.2))
def sX0_remember_z_3 (q : Nat → Int32) (r : Nat → Nat) (mg : Nat → Nat → Int32) (mu : Nat → Nat → Int32) (mr : Nat → Nat → Nat → Int32) (g2 : Nat → Int32) (u2 : Nat → Int32) (rv2 : Nat → Nat → Int32) (cc : Nat) (z_2 : (Nat → Int32) × (Nat → Nat)) (z_3 : (Nat → Int32) × (Nat → Int32) × (Nat → Nat → Int32)) : (Nat → Int32) × (Nat → Nat) × (Nat → Nat → Int32) × (Nat → Nat → Int32) × (Nat → Nat → Nat → Int32) :=
  ((upd z_2.1 1 14), z_2.2, (updR mg (z_2.2 13) z_3.1), (updR mu (z_2.2 13) z_3.2.1), (updS mr (z_2.2 13) z_3.2.2))
def sX0_remember_z_2 (q : Nat → Int32) (r : Nat → Nat) (mg : Nat → Nat → Int32) (mu : Nat → Nat → Int32) (mr : Nat → Nat → Nat → Int32) (g2 : Nat → Int32) (u2 : Nat → Int32) (rv2 : Nat → Nat → Int32) (cc : Nat) (z_2 : (Nat → Int32) × (Nat → Nat)) : (Nat → Int32) × (Nat → Nat) × (Nat → Nat → Int32) × (Nat → Nat → Int32) × (Nat → Nat → Nat → Int32) :=
  (if (nI 14) ≤ 13 then (z_2.1, z_2.2, mg, mu, mr) else (sX0_remember_z_3 q r mg mu mr g2 u2 rv2 cc z_2 (sX5_copyFrom (mg (z_2.2 13)) (mu (z_2.2 13)) (mr (z_2.2 13)) g2 u2 rv2)))
def sX0_remember (q : Nat → Int32) (r : Nat → Nat) (mg : Nat → Nat → Int32) (mu : Nat → Nat → Int32) (mr : Nat → Nat → Nat → Int32) (g2 : Nat → Int32) (u2 : Nat → Int32) (rv2 : Nat → Nat → Int32) (cc : Nat) : (Nat → Int32) × (Nat → Nat) × (Nat → Nat → Int32) × (Nat → Nat → Int32) × (Nat → Nat → Nat → Int32) :=
  (if (nI cc) < (nI 14) then (if (nI cc) < 0 then (q, r, mg, mu, mr) else (if (nI 14) ≤ (nI cc) then (q, r, mg, mu, mr) else (sX0_remember_z_1 q r mg mu mr g2 u2 rv2 cc (sX5_copyFrom (mg (r cc)) (mu (r cc)) (mr (r cc)) g2 u2 rv2)))) else (sX0_remember_z_2 q r mg mu mr g2 u2 rv2 cc (sX0_forgetOldest q r)))
set_option maxRecDepth 100000 in
set_option maxHeartbeats 4000000 in
theorem c_X0_remember (l : Launch) (G : va_G) (kk : Nat → ClassId) (h : Nat) (ra : Nat) (ma : Nat → Nat → Nat) (q : Nat → Int32) (r : Nat → Nat) (mg : Nat → Nat → Int32) (mu : Nat → Nat → Int32) (mr : Nat → Nat → Nat → Int32) (a2 : Nat → Nat) (g2 : Nat → Int32) (u2 : Nat → Int32) (rv2 : Nat → Nat → Int32) (cc : Nat) (hq : q 1 = nI cc) (hc : cc ≤ 14) (hrr : ∀ j, j < 14 → r j < 14) (hzb : ∀ i, i < 6 → zb (rv2 i 5)) : CC l yX0_remember cX0_remember 2 none (rmO 2 43) [.ref h, .ref (a2 0)] G kk ([(h, .inr (0, mmF ra q)), (ra, .inl (kk 4, 14, .inr (.inr (.inr (.inr (rowF ma r))))))] ++ (stsF kk ma mg mu mr 0 14 ++ (stW kk a2 g2 u2 rv2))) (QV G kk ([(h, .inr (0, mmF ra ((sX0_remember q r mg mu mr g2 u2 rv2 cc).1))), (ra, .inl (kk 4, 14, .inr (.inr (.inr (.inr (rowF ma ((sX0_remember q r mg mu mr g2 u2 rv2 cc).2.1)))))))] ++ (stsF kk ma ((sX0_remember q r mg mu mr g2 u2 rv2 cc).2.2.1) ((sX0_remember q r mg mu mr g2 u2 rv2 cc).2.2.2.1) ((sX0_remember q r mg mu mr g2 u2 rv2 cc).2.2.2.2) 0 14 ++ (stW kk a2 g2 u2 rv2)))) := by
  refine cc_start (by decide +kernel) (Nat.le_of_ble_eq_true rfl) ?_
  intro p e s m below meth c A ls hx hb hr hml hown hts hlocks hA hE hK hP hD hS hl
  have hown : s.vm.findClass RX0 = some m.cls := hown
  have hl : lv_has ls 2 [(0, .ref h), (1, .ref (a2 0))] := hl
  have eS : sX0_remember q r mg mu mr g2 u2 rv2 cc = sX0_remember q r mg mu mr g2 u2 rv2 cc := rfl
  refine lv_aload_n hx hb dX0_remember_0 rfl (lv_at hl 0 rfl) ?_
  refine r_get (v := .int (q 1)) hx hb hts hown hK hP fl_X0_18 0 rfl rfl dX0_remember_1 ?_
  refine top_eq (y := (nI cc)) (hq) ?_
  refine lv_aload_n hx hb dX0_remember_4 rfl (lv_at hl 0 rfl) ?_
  refine r_get (v := .ref ra) hx hb hts hown hK hP fl_X0_11 0 rfl rfl dX0_remember_5 ?_
  refine r_alen (t0 := 4) hx hb hK hP 1 rfl rfl dX0_remember_8 ?_
  refine lv_icmp_lt (tgt := 16) hx hb dX0_remember_9 (by decide) (fun c_9 => ?_) (fun c_9 => ?_)
  · have eS := eS.trans (if_pos c_9)
    refine lv_aload_n hx hb dX0_remember_16 rfl (lv_at hl 0 rfl) ?_
    refine r_get (v := .int (q 1)) hx hb hts hown hK hP fl_X0_18 0 rfl rfl dX0_remember_17 ?_
    refine top_eq (y := (nI cc)) (hq) ?_
    refine lv_if_lt (tgt := 58) hx hb dX0_remember_20 (by decide) (fun c_20 => ?_) (fun c_20 => ?_)
    · have eS := eS.trans (if_pos c_20)
      exact fin_v hx hb hr hlocks hK (vP_eq (congrArg (fun z : (Nat → Int32) × (Nat → Nat) × (Nat → Nat → Int32) × (Nat → Nat → Int32) × (Nat → Nat → Nat → Int32) => ([(h, .inr (0, mmF ra z.1)), (ra, .inl (kk 4, 14, .inr (.inr (.inr (.inr (rowF ma z.2.1))))))] ++ (stsF kk ma z.2.2.1 z.2.2.2.1 z.2.2.2.2 0 14 ++ (stW kk a2 g2 u2 rv2)) : va_W)) eS.symm) hP) (vD_eq (congrArg (fun z : (Nat → Int32) × (Nat → Nat) × (Nat → Nat → Int32) × (Nat → Nat → Int32) × (Nat → Nat → Nat → Int32) => ([(h, .inr (0, mmF ra z.1)), (ra, .inl (kk 4, 14, .inr (.inr (.inr (.inr (rowF ma z.2.1))))))] ++ (stsF kk ma z.2.2.1 z.2.2.2.1 z.2.2.2.2 0 14 ++ (stW kk a2 g2 u2 rv2)) : va_W)) eS.symm) hD) hS dX0_remember_58
    · have eS := eS.trans (if_neg c_20)
      refine lv_aload_n hx hb dX0_remember_23 rfl (lv_at hl 0 rfl) ?_
      refine r_get (v := .int (q 1)) hx hb hts hown hK hP fl_X0_18 0 rfl rfl dX0_remember_24 ?_
      refine top_eq (y := (nI cc)) (hq) ?_
      refine lv_aload_n hx hb dX0_remember_27 rfl (lv_at hl 0 rfl) ?_
      refine r_get (v := .ref ra) hx hb hts hown hK hP fl_X0_11 0 rfl rfl dX0_remember_28 ?_
      refine r_alen (t0 := 4) hx hb hK hP 1 rfl rfl dX0_remember_31 ?_
      refine lv_icmp_ge (tgt := 58) hx hb dX0_remember_32 (by decide) (fun c_32 => ?_) (fun c_32 => ?_)
      · have eS := eS.trans (if_pos c_32)
        exact fin_v hx hb hr hlocks hK (vP_eq (congrArg (fun z : (Nat → Int32) × (Nat → Nat) × (Nat → Nat → Int32) × (Nat → Nat → Int32) × (Nat → Nat → Nat → Int32) => ([(h, .inr (0, mmF ra z.1)), (ra, .inl (kk 4, 14, .inr (.inr (.inr (.inr (rowF ma z.2.1))))))] ++ (stsF kk ma z.2.2.1 z.2.2.2.1 z.2.2.2.2 0 14 ++ (stW kk a2 g2 u2 rv2)) : va_W)) eS.symm) hP) (vD_eq (congrArg (fun z : (Nat → Int32) × (Nat → Nat) × (Nat → Nat → Int32) × (Nat → Nat → Int32) × (Nat → Nat → Nat → Int32) => ([(h, .inr (0, mmF ra z.1)), (ra, .inl (kk 4, 14, .inr (.inr (.inr (.inr (rowF ma z.2.1))))))] ++ (stsF kk ma z.2.2.1 z.2.2.2.1 z.2.2.2.2 0 14 ++ (stW kk a2 g2 u2 rv2)) : va_W)) eS.symm) hD) hS dX0_remember_58
      · have eS := eS.trans (if_neg c_32)
        refine lv_aload_n hx hb dX0_remember_35 rfl (lv_at hl 0 rfl) ?_
        refine r_get (v := .ref ra) hx hb hts hown hK hP fl_X0_11 0 rfl rfl dX0_remember_36 ?_
        refine lv_aload_n hx hb dX0_remember_39 rfl (lv_at hl 0 rfl) ?_
        refine r_get (v := .int (q 1)) hx hb hts hown hK hP fl_X0_18 0 rfl rfl dX0_remember_40 ?_
        refine top_eq (y := (nI cc)) (hq) ?_
        refine r_aald hx hb hK hP 1 4 rfl rfl cc ((ma (r cc)) 0) rfl (me_l c_9 hc) (by decide) rfl dX0_remember_43 ?_
        refine lv_aload_n hx hb dX0_remember_44 rfl (lv_at hl 1 rfl) ?_
        refine k_goV (k_runV (rest := []) (As := [.ref (a2 0)]) hx hb hml hown hts hK hP hD hS hA hE hl.1 (c_X5_copyFrom l G kk (ma (r cc)) a2 (mg (r cc)) (mu (r cc)) (mr (r cc)) g2 u2 rv2 hzb) vl_X0_25 rfl rfl rfl ⟨Nat.le_of_ble_eq_true rfl, Nat.le_of_ble_eq_true rfl, rfl, rfl⟩ (List.range' (2 + 9 * (r cc)) 9 ++ List.range' 128 9) (nd_app1 9 _ 128 9 (by have := (hrr _ (me_l c_9 hc)); omega)) (rem_C (hrr _ (me_l c_9 hc))) ⟨Nat.zero_le _, Nat.zero_le _⟩ rfl (Nat.le_of_ble_eq_true rfl) dX0_remember_45) hP hD hS hA (List.range' (2 + 9 * (r cc)) 9 ++ List.range' 128 9) (rem_C (hrr _ (me_l c_9 hc))) (ads_app st_ads st_ads) (fun H locs hP hD hS => ?_)
        replace hP : va_P G vwCl ([(h, .inr (0, mmF ra q)), (ra, .inl (kk 4, 14, .inr (.inr (.inr (.inr (rowF ma r))))))] ++ (stsF kk ma (updR mg (r cc) ((sX5_copyFrom (mg (r cc)) (mu (r cc)) (mr (r cc)) g2 u2 rv2).1)) (updR mu (r cc) ((sX5_copyFrom (mg (r cc)) (mu (r cc)) (mr (r cc)) g2 u2 rv2).2.1)) (updS mr (r cc) ((sX5_copyFrom (mg (r cc)) (mu (r cc)) (mr (r cc)) g2 u2 rv2).2.2)) 0 14 ++ (stW kk a2 g2 u2 rv2))) H := vP_eq (rem_eq (hrr _ (me_l c_9 hc))) hP
        replace hD : va_D A ([(h, .inr (0, mmF ra q)), (ra, .inl (kk 4, 14, .inr (.inr (.inr (.inr (rowF ma r))))))] ++ (stsF kk ma (updR mg (r cc) ((sX5_copyFrom (mg (r cc)) (mu (r cc)) (mr (r cc)) g2 u2 rv2).1)) (updR mu (r cc) ((sX5_copyFrom (mg (r cc)) (mu (r cc)) (mr (r cc)) g2 u2 rv2).2.1)) (updS mr (r cc) ((sX5_copyFrom (mg (r cc)) (mu (r cc)) (mr (r cc)) g2 u2 rv2).2.2)) 0 14 ++ (stW kk a2 g2 u2 rv2))) := vD_eq (rem_eq (hrr _ (me_l c_9 hc))) hD
        have eS : sX0_remember q r mg mu mr g2 u2 rv2 cc = sX0_remember_z_1 q r mg mu mr g2 u2 rv2 cc (sX5_copyFrom (mg (r cc)) (mu (r cc)) (mr (r cc)) g2 u2 rv2) := eS
        generalize sX5_copyFrom (mg (r cc)) (mu (r cc)) (mr (r cc)) g2 u2 rv2 = z_1 at hP hD eS ⊢
        refine lv_aload_n hx hb dX0_remember_48 rfl (lv_at hl 0 rfl) ?_
        refine lv_dup hx hb dX0_remember_49 rfl ?_
        refine r_get (v := .int (q 1)) hx hb hts hown hK hP fl_X0_18 0 rfl rfl dX0_remember_50 ?_
        refine top_eq (y := (nI cc)) (hq) ?_
        refine lv_iconst (v := 1) hx hb dX0_remember_53 (by decide) ?_
        refine lv_iadd hx hb dX0_remember_54 ?_
        refine top_eq (nI_add cc 1) ?_
        refine r_put hx hb hts hown hK hP hD hS fl_X0_18 fw_0_1 0 rfl rfl rfl (Nat.le_of_ble_eq_true rfl) dX0_remember_55 (fun H locs hP hD hS => ?_)
        replace hP : va_P G vwCl ([(h, .inr (0, mmF ra (upd q 1 (nI (cc + 1))))), (ra, .inl (kk 4, 14, .inr (.inr (.inr (.inr (rowF ma r))))))] ++ (stsF kk ma (updR mg (r cc) z_1.1) (updR mu (r cc) z_1.2.1) (updS mr (r cc) z_1.2.2) 0 14 ++ (stW kk a2 g2 u2 rv2))) H := hP
        replace hD : va_D A ([(h, .inr (0, mmF ra (upd q 1 (nI (cc + 1))))), (ra, .inl (kk 4, 14, .inr (.inr (.inr (.inr (rowF ma r))))))] ++ (stsF kk ma (updR mg (r cc) z_1.1) (updR mu (r cc) z_1.2.1) (updS mr (r cc) z_1.2.2) 0 14 ++ (stW kk a2 g2 u2 rv2))) := hD
        exact fin_v hx hb hr hlocks hK (vP_eq (congrArg (fun z : (Nat → Int32) × (Nat → Nat) × (Nat → Nat → Int32) × (Nat → Nat → Int32) × (Nat → Nat → Nat → Int32) => ([(h, .inr (0, mmF ra z.1)), (ra, .inl (kk 4, 14, .inr (.inr (.inr (.inr (rowF ma z.2.1))))))] ++ (stsF kk ma z.2.2.1 z.2.2.2.1 z.2.2.2.2 0 14 ++ (stW kk a2 g2 u2 rv2)) : va_W)) eS.symm) hP) (vD_eq (congrArg (fun z : (Nat → Int32) × (Nat → Nat) × (Nat → Nat → Int32) × (Nat → Nat → Int32) × (Nat → Nat → Nat → Int32) => ([(h, .inr (0, mmF ra z.1)), (ra, .inl (kk 4, 14, .inr (.inr (.inr (.inr (rowF ma z.2.1))))))] ++ (stsF kk ma z.2.2.1 z.2.2.2.1 z.2.2.2.2 0 14 ++ (stW kk a2 g2 u2 rv2)) : va_W)) eS.symm) hD) hS dX0_remember_58
  · have eS := eS.trans (if_neg c_9)
    refine lv_aload_n hx hb dX0_remember_12 rfl (lv_at hl 0 rfl) ?_
    refine k_goV (k_runV (rest := []) (As := []) hx hb hml hown hts hK hP hD hS hA hE hl.1 (c_X0_forgetOldest l G kk h ra ma q r mg mu mr hrr) vl_X0_22 rfl rfl rfl ⟨Nat.le_of_ble_eq_true rfl, Nat.le_of_ble_eq_true rfl, rfl, rfl⟩ (List.range' 0 128) (nd_range 128 0) fo_C ⟨Nat.zero_le _, Nat.zero_le _⟩ rfl (Nat.le_of_ble_eq_true rfl) dX0_remember_13) hP hD hS hA (List.range' 0 128) fo_C (ads_app ads2 sts_ads) (fun H locs hP hD hS => ?_)
    replace hP : va_P G vwCl ([(h, .inr (0, mmF ra ((sX0_forgetOldest q r).1))), (ra, .inl (kk 4, 14, .inr (.inr (.inr (.inr (rowF ma ((sX0_forgetOldest q r).2)))))))] ++ (stsF kk ma mg mu mr 0 14 ++ (stW kk a2 g2 u2 rv2))) H := vP_eq (fo_eq) hP
    replace hD : va_D A ([(h, .inr (0, mmF ra ((sX0_forgetOldest q r).1))), (ra, .inl (kk 4, 14, .inr (.inr (.inr (.inr (rowF ma ((sX0_forgetOldest q r).2)))))))] ++ (stsF kk ma mg mu mr 0 14 ++ (stW kk a2 g2 u2 rv2))) := vD_eq (fo_eq) hD
    have eS : sX0_remember q r mg mu mr g2 u2 rv2 cc = sX0_remember_z_2 q r mg mu mr g2 u2 rv2 cc (sX0_forgetOldest q r) := eS
    have hz_2 := (fo_p q r hrr)
    generalize sX0_forgetOldest q r = z_2 at hP hD eS hz_2 ⊢
    have q13 : z_2.1 1 = 13 := (congrFun hz_2.1 1).trans (pk_us.trans (me_13 hq c_9 hc))
    refine lv_aload_n hx hb dX0_remember_16 rfl (lv_at hl 0 rfl) ?_
    refine r_get (v := .int (z_2.1 1)) hx hb hts hown hK hP fl_X0_18 0 rfl rfl dX0_remember_17 ?_
    refine top_eq (y := 13) (q13) ?_
    refine lv_if_lt (tgt := 58) hx hb dX0_remember_20 (by decide) (fun c_20 => absurd c_20 (by decide)) (fun c_20 => ?_)
    refine lv_aload_n hx hb dX0_remember_23 rfl (lv_at hl 0 rfl) ?_
    refine r_get (v := .int (z_2.1 1)) hx hb hts hown hK hP fl_X0_18 0 rfl rfl dX0_remember_24 ?_
    refine top_eq (y := 13) (q13) ?_
    refine lv_aload_n hx hb dX0_remember_27 rfl (lv_at hl 0 rfl) ?_
    refine r_get (v := .ref ra) hx hb hts hown hK hP fl_X0_11 0 rfl rfl dX0_remember_28 ?_
    refine r_alen (t0 := 4) hx hb hK hP 1 rfl rfl dX0_remember_31 ?_
    refine lv_icmp_ge (tgt := 58) hx hb dX0_remember_32 (by decide) (fun c_32 => ?_) (fun c_32 => ?_)
    · have eS := eS.trans (if_pos c_32)
      exact fin_v hx hb hr hlocks hK (vP_eq (congrArg (fun z : (Nat → Int32) × (Nat → Nat) × (Nat → Nat → Int32) × (Nat → Nat → Int32) × (Nat → Nat → Nat → Int32) => ([(h, .inr (0, mmF ra z.1)), (ra, .inl (kk 4, 14, .inr (.inr (.inr (.inr (rowF ma z.2.1))))))] ++ (stsF kk ma z.2.2.1 z.2.2.2.1 z.2.2.2.2 0 14 ++ (stW kk a2 g2 u2 rv2)) : va_W)) eS.symm) hP) (vD_eq (congrArg (fun z : (Nat → Int32) × (Nat → Nat) × (Nat → Nat → Int32) × (Nat → Nat → Int32) × (Nat → Nat → Nat → Int32) => ([(h, .inr (0, mmF ra z.1)), (ra, .inl (kk 4, 14, .inr (.inr (.inr (.inr (rowF ma z.2.1))))))] ++ (stsF kk ma z.2.2.1 z.2.2.2.1 z.2.2.2.2 0 14 ++ (stW kk a2 g2 u2 rv2)) : va_W)) eS.symm) hD) hS dX0_remember_58
    · have eS := eS.trans (if_neg c_32)
      refine lv_aload_n hx hb dX0_remember_35 rfl (lv_at hl 0 rfl) ?_
      refine r_get (v := .ref ra) hx hb hts hown hK hP fl_X0_11 0 rfl rfl dX0_remember_36 ?_
      refine lv_aload_n hx hb dX0_remember_39 rfl (lv_at hl 0 rfl) ?_
      refine r_get (v := .int (z_2.1 1)) hx hb hts hown hK hP fl_X0_18 0 rfl rfl dX0_remember_40 ?_
      refine top_eq (y := 13) (q13) ?_
      refine r_aald hx hb hK hP 1 4 rfl rfl 13 ((ma (z_2.2 13)) 0) rfl (by decide) (by decide) rfl dX0_remember_43 ?_
      refine lv_aload_n hx hb dX0_remember_44 rfl (lv_at hl 1 rfl) ?_
      refine k_goV (k_runV (rest := []) (As := [.ref (a2 0)]) hx hb hml hown hts hK hP hD hS hA hE hl.1 (c_X5_copyFrom l G kk (ma (z_2.2 13)) a2 (mg (z_2.2 13)) (mu (z_2.2 13)) (mr (z_2.2 13)) g2 u2 rv2 hzb) vl_X0_25 rfl rfl rfl ⟨Nat.le_of_ble_eq_true rfl, Nat.le_of_ble_eq_true rfl, rfl, rfl⟩ (List.range' (2 + 9 * (z_2.2 13)) 9 ++ List.range' 128 9) (nd_app1 9 _ 128 9 (by have := (hz_2.2 13 (by decide)); omega)) (rem_C (hz_2.2 13 (by decide))) ⟨Nat.zero_le _, Nat.zero_le _⟩ rfl (Nat.le_of_ble_eq_true rfl) dX0_remember_45) hP hD hS hA (List.range' (2 + 9 * (z_2.2 13)) 9 ++ List.range' 128 9) (rem_C (hz_2.2 13 (by decide))) (ads_app st_ads st_ads) (fun H locs hP hD hS => ?_)
      replace hP : va_P G vwCl ([(h, .inr (0, mmF ra z_2.1)), (ra, .inl (kk 4, 14, .inr (.inr (.inr (.inr (rowF ma z_2.2))))))] ++ (stsF kk ma (updR mg (z_2.2 13) ((sX5_copyFrom (mg (z_2.2 13)) (mu (z_2.2 13)) (mr (z_2.2 13)) g2 u2 rv2).1)) (updR mu (z_2.2 13) ((sX5_copyFrom (mg (z_2.2 13)) (mu (z_2.2 13)) (mr (z_2.2 13)) g2 u2 rv2).2.1)) (updS mr (z_2.2 13) ((sX5_copyFrom (mg (z_2.2 13)) (mu (z_2.2 13)) (mr (z_2.2 13)) g2 u2 rv2).2.2)) 0 14 ++ (stW kk a2 g2 u2 rv2))) H := vP_eq (rem_eq (hz_2.2 13 (by decide))) hP
      replace hD : va_D A ([(h, .inr (0, mmF ra z_2.1)), (ra, .inl (kk 4, 14, .inr (.inr (.inr (.inr (rowF ma z_2.2))))))] ++ (stsF kk ma (updR mg (z_2.2 13) ((sX5_copyFrom (mg (z_2.2 13)) (mu (z_2.2 13)) (mr (z_2.2 13)) g2 u2 rv2).1)) (updR mu (z_2.2 13) ((sX5_copyFrom (mg (z_2.2 13)) (mu (z_2.2 13)) (mr (z_2.2 13)) g2 u2 rv2).2.1)) (updS mr (z_2.2 13) ((sX5_copyFrom (mg (z_2.2 13)) (mu (z_2.2 13)) (mr (z_2.2 13)) g2 u2 rv2).2.2)) 0 14 ++ (stW kk a2 g2 u2 rv2))) := vD_eq (rem_eq (hz_2.2 13 (by decide))) hD
      have eS : sX0_remember q r mg mu mr g2 u2 rv2 cc = sX0_remember_z_3 q r mg mu mr g2 u2 rv2 cc z_2 (sX5_copyFrom (mg (z_2.2 13)) (mu (z_2.2 13)) (mr (z_2.2 13)) g2 u2 rv2) := eS
      generalize sX5_copyFrom (mg (z_2.2 13)) (mu (z_2.2 13)) (mr (z_2.2 13)) g2 u2 rv2 = z_3 at hP hD eS ⊢
      refine lv_aload_n hx hb dX0_remember_48 rfl (lv_at hl 0 rfl) ?_
      refine lv_dup hx hb dX0_remember_49 rfl ?_
      refine r_get (v := .int (z_2.1 1)) hx hb hts hown hK hP fl_X0_18 0 rfl rfl dX0_remember_50 ?_
      refine top_eq (y := 13) (q13) ?_
      refine lv_iconst (v := 1) hx hb dX0_remember_53 (by decide) ?_
      refine lv_iadd hx hb dX0_remember_54 ?_
      refine top_eq (show _ = (14 : Int32) by decide) ?_
      refine r_put hx hb hts hown hK hP hD hS fl_X0_18 fw_0_1 0 rfl rfl rfl (Nat.le_of_ble_eq_true rfl) dX0_remember_55 (fun H locs hP hD hS => ?_)
      replace hP : va_P G vwCl ([(h, .inr (0, mmF ra (upd z_2.1 1 14))), (ra, .inl (kk 4, 14, .inr (.inr (.inr (.inr (rowF ma z_2.2))))))] ++ (stsF kk ma (updR mg (z_2.2 13) z_3.1) (updR mu (z_2.2 13) z_3.2.1) (updS mr (z_2.2 13) z_3.2.2) 0 14 ++ (stW kk a2 g2 u2 rv2))) H := hP
      replace hD : va_D A ([(h, .inr (0, mmF ra (upd z_2.1 1 14))), (ra, .inl (kk 4, 14, .inr (.inr (.inr (.inr (rowF ma z_2.2))))))] ++ (stsF kk ma (updR mg (z_2.2 13) z_3.1) (updR mu (z_2.2 13) z_3.2.1) (updS mr (z_2.2 13) z_3.2.2) 0 14 ++ (stW kk a2 g2 u2 rv2))) := hD
      exact fin_v hx hb hr hlocks hK (vP_eq (congrArg (fun z : (Nat → Int32) × (Nat → Nat) × (Nat → Nat → Int32) × (Nat → Nat → Int32) × (Nat → Nat → Nat → Int32) => ([(h, .inr (0, mmF ra z.1)), (ra, .inl (kk 4, 14, .inr (.inr (.inr (.inr (rowF ma z.2.1))))))] ++ (stsF kk ma z.2.2.1 z.2.2.2.1 z.2.2.2.2 0 14 ++ (stW kk a2 g2 u2 rv2)) : va_W)) eS.symm) hP) (vD_eq (congrArg (fun z : (Nat → Int32) × (Nat → Nat) × (Nat → Nat → Int32) × (Nat → Nat → Int32) × (Nat → Nat → Nat → Int32) => ([(h, .inr (0, mmF ra z.1)), (ra, .inl (kk 4, 14, .inr (.inr (.inr (.inr (rowF ma z.2.1))))))] ++ (stsF kk ma z.2.2.1 z.2.2.2.1 z.2.2.2.2 0 14 ++ (stW kk a2 g2 u2 rv2)) : va_W)) eS.symm) hD) hS dX0_remember_58
