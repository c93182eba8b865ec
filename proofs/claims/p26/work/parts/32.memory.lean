def updN (r : Nat → Nat) (k v : Nat) : Nat → Nat := fun j => if j = k then v else r j
def updS (R : Nat → Nat → Nat → Int32) (k : Nat) (v : Nat → Nat → Int32) : Nat → Nat → Nat → Int32 := fun j => if j = k then v else R j
def rowF (ma : Nat → Nat → Nat) (r : Nat → Nat) : Nat → Option Nat := fun j => some (ma (r j) 0)
/-- states in a row: the i-th and n more from there -/
def stsF (kk : Nat → ClassId) (ma : Nat → Nat → Nat) (G U : Nat → Nat → Int32) (RV : Nat → Nat → Nat → Int32) : Nat → Nat → va_W
  | _, 0 => []
  | i, n + 1 => stW kk (ma i) (G i) (U i) (RV i) ++ stsF kk ma G U RV (i + 1) n
theorem stsF_len {kk : Nat → ClassId} {ma : Nat → Nat → Nat} {G U : Nat → Nat → Int32} {RV : Nat → Nat → Nat → Int32} : ∀ (n i : Nat), (stsF kk ma G U RV i n).length = 9 * n
  | 0, _ => rfl
  | n + 1, i => by
    show (stW kk (ma i) (G i) (U i) (RV i) ++ stsF kk ma G U RV (i + 1) n).length = _
    rw [List.length_append, stsF_len n (i + 1), st_len]
    omega
theorem sts_at {kk : Nat → ClassId} {ma : Nat → Nat → Nat} {G U : Nat → Nat → Int32} {RV : Nat → Nat → Nat → Int32} : ∀ (n i p : Nat), p < n → (stsF kk ma G U RV i n)[9 * p]? = some (ma (i + p) 0, .inr (5, sgF (ma (i + p) 1) (ma (i + p) 2) (G (i + p))))
  | 0, _, _, h => absurd h (Nat.not_lt_zero _)
  | n + 1, i, 0, _ => rfl
  | n + 1, i, p + 1, h => by
    show (stW kk (ma i) (G i) (U i) (RV i) ++ stsF kk ma G U RV (i + 1) n)[9 * (p + 1)]? = _
    rw [List.getElem?_append_right (by rw [st_len]; omega), st_len, show 9 * (p + 1) - 9 = 9 * p by omega, sts_at n (i + 1) p (by omega), show i + 1 + p = i + (p + 1) by omega]
theorem sts_at2 {kk : Nat → ClassId} {ma : Nat → Nat → Nat} {G U : Nat → Nat → Int32} {RV : Nat → Nat → Nat → Int32} {x y : Nat × va_E} {p : Nat} (h : p < 14) : ([x, y] ++ stsF kk ma G U RV 0 14)[2 + 9 * p]? = some (ma p 0, .inr (5, sgF (ma p 1) (ma p 2) (G p))) := by
  rw [List.getElem?_append_right (by show 2 ≤ _; omega)]
  show (stsF kk ma G U RV 0 14)[2 + 9 * p - 2]? = _
  rw [Nat.add_sub_cancel_left, sts_at 14 0 p h, Nat.zero_add]
theorem rowF_up {ma : Nat → Nat → Nat} {r : Nat → Nat} {k p : Nat} : va_up (rowF ma r) k (some (ma p 0)) = rowF ma (updN r k p) := by
  funext j
  unfold va_up rowF updN
  by_cases h : j = k
  · rw [if_pos h, if_pos h]
  · rw [if_neg h, if_neg h]
theorem r_aast {p : Program} {l : Launch} {e : Env} {R : Room} {s : State} {m : MethodId} {args : Array Value} {below : List Frame} {meth : Method} {c : Code} {H : Heap} {locs : List Loc} {cells slots : Nat} {Q : State → Prop} {cc : ByteArray} {pc : Nat} {ls : Array Slot} {rest : List Value} {G : va_G} {kk : Nat → ClassId} {A : Nat → Prop} {ws : va_W} {a n : Nat} {ma : Nat → Nat → Nat} {r : Nat → Nat} {i : Int32} {vs : List Value} {H0 : Heap} (hx : p.tables.exec = Jvm.exec) (hb : c.code = cc) (hK : va_K G vwCl (TYS kk) s) (hP : va_P G vwCl ws H) (hD : va_D A ws) (hS : va_S A H0 H locs) (q0 : Nat) (ha : ws[q0]? = some (a, .inl (kk 4, n, .inr (.inr (.inr (.inr (rowF ma r))))))) (k : Nat) (e1 : i = nI k) (h : k < n) (hn : n < 2 ^ 31) (qk pn : Nat) (hv : ws[qk]? = some (ma pn 0, .inr (5, vs))) (hdg : decode cc pc = .ok (.aastore, 1))
    (kk1 : ∀ (H1 : Heap) (locs1 : List Loc), va_P G vwCl (ws.set q0 (a, .inl (kk 4, n, .inr (.inr (.inr (.inr (rowF ma (updN r k pn)))))))) H1 → va_D A (ws.set q0 (a, .inl (kk 4, n, .inr (.inr (.inr (.inr (rowF ma (updN r k pn)))))))) → va_S A H0 H1 locs1 → W p l e R s m args below meth c H1 locs1 cells slots Q (F0 m (pc + 1) ls rest)) : W p l e R s m args below meth c H locs cells slots Q (F0 m pc ls (.ref (ma pn 0) :: .int i :: .ref a :: rest)) :=
  va_astq hx hb hK hP hD hS q0 4 qk 5 ha rfl hv rfl (ix_in e1 h hn) hdg (by rw [ix_cl e1 h hn, rowF_up]; exact kk1)
theorem fo_h {r : Nat → Nat} {i : Nat} (hr : ∀ j, j < 14 → r j < 14) (hi : 1 ≤ i) (h : i < 14) : ∀ j, j < 14 → updN (updN r (i - 1) (r i)) i (r (i - 1)) j < 14 := by
  intro j hj
  unfold updN
  by_cases h1 : j = i
  · rw [if_pos h1]; exact hr _ (by omega)
  · rw [if_neg h1]
    by_cases h2 : j = i - 1
    · rw [if_pos h2]; exact hr _ h
    · rw [if_neg h2]; exact hr _ hj
theorem sts_ads {kk : Nat → ClassId} {ma : Nat → Nat → Nat} {G U G' U' : Nat → Nat → Int32} {RV RV' : Nat → Nat → Nat → Int32} : ∀ {n i : Nat}, (stsF kk ma G' U' RV' i n).map (fun q => q.1) = (stsF kk ma G U RV i n).map (fun q => q.1)
  | 0, _ => rfl
  | n + 1, i => ads_app st_ads sts_ads
def sX0_isEmpty (q : Nat → Int32) : Int32 :=
  (if (q 1) = 0 then 1 else 0)
set_option maxRecDepth 100000 in
set_option maxHeartbeats 4000000 in
theorem c_X0_isEmpty (l : Launch) (G : va_G) (kk : Nat → ClassId) (h : Nat) (ra : Nat) (q : Nat → Int32)  : CC l yX0_isEmpty cX0_isEmpty 1 (some .boolean) (rmO 0 0) [.ref h] G kk ([(h, .inr (0, mmF ra q))]) (QI G kk ([(h, .inr (0, mmF ra q))]) (sX0_isEmpty q)) := by
  refine cc_start (by decide +kernel) (Nat.le_of_ble_eq_true rfl) ?_
  intro p e s m below meth c A ls hx hb hr hml hown hts hlocks hA hE hK hP hD hS hl
  have hown : s.vm.findClass RX0 = some m.cls := hown
  have hl : lv_has ls 1 [(0, .ref h)] := hl
  have eS : sX0_isEmpty q = sX0_isEmpty q := rfl
  refine lv_aload_n hx hb dX0_isEmpty_0 rfl (lv_at hl 0 rfl) ?_
  refine r_get (v := .int (q 1)) hx hb hts hown hK hP fl_X0_18 0 rfl rfl dX0_isEmpty_1 ?_
  refine lv_if_ne (tgt := 11) hx hb dX0_isEmpty_4 (by decide) (fun c_4 => ?_) (fun c_4 => ?_)
  · have eS := eS.trans (if_neg c_4)
    refine lv_iconst (v := 0) hx hb dX0_isEmpty_11 (by decide) ?_
    exact fin_z hx hb hr hlocks hK hP hD hS eS rfl dX0_isEmpty_12
  · have eS := eS.trans (if_pos c_4)
    refine lv_iconst (v := 1) hx hb dX0_isEmpty_7 (by decide) ?_
    refine lv_goto (tgt := 12) hx hb dX0_isEmpty_8 (by decide) ?_
    exact fin_z hx hb hr hlocks hK hP hD hS eS rfl dX0_isEmpty_12
def sX0_forgetAll (q : Nat → Int32) : (Nat → Int32) :=
  (upd q 1 0)
set_option maxRecDepth 100000 in
set_option maxHeartbeats 4000000 in
theorem c_X0_forgetAll (l : Launch) (G : va_G) (kk : Nat → ClassId) (h : Nat) (ra : Nat) (q : Nat → Int32)  : CC l yX0_forgetAll cX0_forgetAll 1 none (rmO 0 0) [.ref h] G kk ([(h, .inr (0, mmF ra q))]) (QV G kk ([(h, .inr (0, mmF ra (sX0_forgetAll q)))])) := by
  refine cc_start (by decide +kernel) (Nat.le_of_ble_eq_true rfl) ?_
  intro p e s m below meth c A ls hx hb hr hml hown hts hlocks hA hE hK hP hD hS hl
  have hown : s.vm.findClass RX0 = some m.cls := hown
  have hl : lv_has ls 1 [(0, .ref h)] := hl
  have eS : sX0_forgetAll q = sX0_forgetAll q := rfl
  refine lv_aload_n hx hb dX0_forgetAll_0 rfl (lv_at hl 0 rfl) ?_
  refine lv_iconst (v := 0) hx hb dX0_forgetAll_1 (by decide) ?_
  refine r_put hx hb hts hown hK hP hD hS fl_X0_18 fw_0_1 0 rfl rfl rfl (Nat.le_of_ble_eq_true rfl) dX0_forgetAll_2 (fun H locs hP hD hS => ?_)
  replace hP : va_P G vwCl ([(h, .inr (0, mmF ra (upd q 1 0)))]) H := hP
  replace hD : va_D A ([(h, .inr (0, mmF ra (upd q 1 0)))]) := hD
  exact fin_v hx hb hr hlocks hK (vP_eq (congrArg (fun z : (Nat → Int32) => ([(h, .inr (0, mmF ra z))] : va_W)) eS.symm) hP) (vD_eq (congrArg (fun z : (Nat → Int32) => ([(h, .inr (0, mmF ra z))] : va_W)) eS.symm) hD) hS dX0_forgetAll_5
def lp_X0_forgetOldest_2 (q : Nat → Int32) (r : Nat → Nat) : Nat → Nat → (Nat → Nat) → (Nat → Int32) × (Nat → Nat)
  | 0, i, r1 => ((upd q 1 ((q 1) - 1)), r1)
  | d + 1, i, r1 => (lp_X0_forgetOldest_2 q r d (i + 1) (updN (updN r1 (i - 1) (r1 i)) i (r1 (i - 1))))
def sX0_forgetOldest (q : Nat → Int32) (r : Nat → Nat) : (Nat → Int32) × (Nat → Nat) :=
  (lp_X0_forgetOldest_2 q r 13 1 r)
set_option maxRecDepth 100000 in
set_option maxHeartbeats 4000000 in
theorem c_X0_forgetOldest (l : Launch) (G : va_G) (kk : Nat → ClassId) (h : Nat) (ra : Nat) (ma : Nat → Nat → Nat) (q : Nat → Int32) (r : Nat → Nat) (mg : Nat → Nat → Int32) (mu : Nat → Nat → Int32) (mr : Nat → Nat → Nat → Int32) (hrr : ∀ j, j < 14 → r j < 14) : CC l yX0_forgetOldest cX0_forgetOldest 3 none (rmO 0 0) [.ref h] G kk ([(h, .inr (0, mmF ra q)), (ra, .inl (kk 4, 14, .inr (.inr (.inr (.inr (rowF ma r))))))] ++ (stsF kk ma mg mu mr 0 14)) (QV G kk ([(h, .inr (0, mmF ra ((sX0_forgetOldest q r).1))), (ra, .inl (kk 4, 14, .inr (.inr (.inr (.inr (rowF ma ((sX0_forgetOldest q r).2)))))))] ++ (stsF kk ma mg mu mr 0 14))) := by
  refine cc_start (by decide +kernel) (Nat.le_of_ble_eq_true rfl) ?_
  intro p e s m below meth c A ls hx hb hr hml hown hts hlocks hA hE hK hP hD hS hl
  have hown : s.vm.findClass RX0 = some m.cls := hown
  have hl : lv_has ls 3 [(0, .ref h)] := hl
  have eS : sX0_forgetOldest q r = sX0_forgetOldest q r := rfl
  refine lv_iconst (v := 1) hx hb dX0_forgetOldest_0 (by decide) ?_
  refine lv_istore_n (lv' := [(1, .int 1), (0, .ref h)]) hx hb dX0_forgetOldest_1 rfl hl (by decide) rfl (fun ls hl => ?_)
  have L_1 : ∀ (d : Nat) (i : Nat) (r1 : Nat → Nat) (hd : i + d = 14) (hi1 : 1 ≤ i) (hr1 : ∀ j, j < 14 → r1 j < 14) (eS : sX0_forgetOldest q r = lp_X0_forgetOldest_2 q r d i r1) (H : Heap) (locs : List Loc) (ls : Array Slot) (hP : va_P G vwCl ([(h, .inr (0, mmF ra q)), (ra, .inl (kk 4, 14, .inr (.inr (.inr (.inr (rowF ma r1))))))] ++ (stsF kk ma mg mu mr 0 14)) H) (hD : va_D A ([(h, .inr (0, mmF ra q)), (ra, .inl (kk 4, 14, .inr (.inr (.inr (.inr (rowF ma r1))))))] ++ (stsF kk ma mg mu mr 0 14))) (hS : va_S A s.heap H locs) (hl : lv_has ls 3 [(0, .ref h), (1, .int (nI i))]), GO p l e (rmO 0 0) s m ([.ref h] : List Value).toArray below meth c A (QV G kk ([(h, .inr (0, mmF ra ((sX0_forgetOldest q r).1))), (ra, .inl (kk 4, 14, .inr (.inr (.inr (.inr (rowF ma ((sX0_forgetOldest q r).2)))))))] ++ (stsF kk ma mg mu mr 0 14))) H locs (F0 m 2 ls []) := by
    intro d
    induction d with
    | zero =>
      intro i r1 hd hi1 hr1 eS H locs ls hP hD hS hl
      refine lv_iload_n hx hb dX0_forgetOldest_2 rfl (lv_at hl 1 rfl) ?_
      refine lv_aload_n hx hb dX0_forgetOldest_3 rfl (lv_at hl 0 rfl) ?_
      refine r_get (v := .ref ra) hx hb hts hown hK hP fl_X0_11 0 rfl rfl dX0_forgetOldest_4 ?_
      refine r_alen (t0 := 4) hx hb hK hP 1 rfl rfl dX0_forgetOldest_7 ?_
      refine lv_icmp_ge (tgt := 47) hx hb dX0_forgetOldest_8 (by decide) (fun c_8 => ?_) (fun c_8 => absurd (nI_le (a := 14) (b := i) (by omega) (by omega)) c_8)
      refine lv_aload_n hx hb dX0_forgetOldest_47 rfl (lv_at hl 0 rfl) ?_
      refine lv_dup hx hb dX0_forgetOldest_48 rfl ?_
      refine r_get (v := .int (q 1)) hx hb hts hown hK hP fl_X0_18 0 rfl rfl dX0_forgetOldest_49 ?_
      refine lv_iconst (v := 1) hx hb dX0_forgetOldest_52 (by decide) ?_
      refine lv_isub hx hb dX0_forgetOldest_53 ?_
      refine r_put hx hb hts hown hK hP hD hS fl_X0_18 fw_0_1 0 rfl rfl rfl (Nat.le_of_ble_eq_true rfl) dX0_forgetOldest_54 (fun H locs hP hD hS => ?_)
      replace hP : va_P G vwCl ([(h, .inr (0, mmF ra (upd q 1 ((q 1) - 1)))), (ra, .inl (kk 4, 14, .inr (.inr (.inr (.inr (rowF ma r1))))))] ++ (stsF kk ma mg mu mr 0 14)) H := hP
      replace hD : va_D A ([(h, .inr (0, mmF ra (upd q 1 ((q 1) - 1)))), (ra, .inl (kk 4, 14, .inr (.inr (.inr (.inr (rowF ma r1))))))] ++ (stsF kk ma mg mu mr 0 14)) := hD
      exact fin_v hx hb hr hlocks hK (vP_eq (congrArg (fun z : (Nat → Int32) × (Nat → Nat) => ([(h, .inr (0, mmF ra z.1)), (ra, .inl (kk 4, 14, .inr (.inr (.inr (.inr (rowF ma z.2))))))] ++ (stsF kk ma mg mu mr 0 14) : va_W)) eS.symm) hP) (vD_eq (congrArg (fun z : (Nat → Int32) × (Nat → Nat) => ([(h, .inr (0, mmF ra z.1)), (ra, .inl (kk 4, 14, .inr (.inr (.inr (.inr (rowF ma z.2))))))] ++ (stsF kk ma mg mu mr 0 14) : va_W)) eS.symm) hD) hS dX0_forgetOldest_57
    | succ d ih =>
      intro i r1 hd hi1 hr1 eS H locs ls hP hD hS hl
      have hi14 : i < 14 := by omega
      refine lv_iload_n hx hb dX0_forgetOldest_2 rfl (lv_at hl 1 rfl) ?_
      refine lv_aload_n hx hb dX0_forgetOldest_3 rfl (lv_at hl 0 rfl) ?_
      refine r_get (v := .ref ra) hx hb hts hown hK hP fl_X0_11 0 rfl rfl dX0_forgetOldest_4 ?_
      refine r_alen (t0 := 4) hx hb hK hP 1 rfl rfl dX0_forgetOldest_7 ?_
      refine lv_icmp_ge (tgt := 47) hx hb dX0_forgetOldest_8 (by decide) (fun c_8 => absurd c_8 (nI_ge (a := i) (b := 14) (by omega) (by omega))) (fun c_8 => ?_)
      refine lv_aload_n hx hb dX0_forgetOldest_11 rfl (lv_at hl 0 rfl) ?_
      refine r_get (v := .ref ra) hx hb hts hown hK hP fl_X0_11 0 rfl rfl dX0_forgetOldest_12 ?_
      refine lv_iload_n hx hb dX0_forgetOldest_15 rfl (lv_at hl 1 rfl) ?_
      refine lv_iconst (v := 1) hx hb dX0_forgetOldest_16 (by decide) ?_
      refine lv_isub hx hb dX0_forgetOldest_17 ?_
      refine top_eq (y := (nI (i - 1))) (pk_sub hi1) ?_
      refine r_aald hx hb hK hP 1 4 rfl rfl (i - 1) ((ma (r1 (i - 1))) 0) rfl (by omega) (by decide) rfl dX0_forgetOldest_18 ?_
      refine lv_astore_n (lv' := [(2, .ref ((ma (r1 (i - 1))) 0)), (0, .ref h), (1, .int (nI i))]) hx hb dX0_forgetOldest_19 rfl hl (by decide) rfl (fun ls hl => ?_)
      refine lv_aload_n hx hb dX0_forgetOldest_20 rfl (lv_at hl 1 rfl) ?_
      refine r_get (v := .ref ra) hx hb hts hown hK hP fl_X0_11 0 rfl rfl dX0_forgetOldest_21 ?_
      refine lv_iload_n hx hb dX0_forgetOldest_24 rfl (lv_at hl 2 rfl) ?_
      refine lv_iconst (v := 1) hx hb dX0_forgetOldest_25 (by decide) ?_
      refine lv_isub hx hb dX0_forgetOldest_26 ?_
      refine top_eq (y := (nI (i - 1))) (pk_sub hi1) ?_
      refine lv_aload_n hx hb dX0_forgetOldest_27 rfl (lv_at hl 1 rfl) ?_
      refine r_get (v := .ref ra) hx hb hts hown hK hP fl_X0_11 0 rfl rfl dX0_forgetOldest_28 ?_
      refine lv_iload_n hx hb dX0_forgetOldest_31 rfl (lv_at hl 2 rfl) ?_
      refine r_aald hx hb hK hP 1 4 rfl rfl i ((ma (r1 i)) 0) rfl (by omega) (by decide) rfl dX0_forgetOldest_32 ?_
      refine r_aast hx hb hK hP hD hS 1 rfl (i - 1) rfl (by omega) (by decide) (2 + 9 * (r1 i)) (r1 i) (sts_at2 (hr1 _ (by omega))) dX0_forgetOldest_33 (fun H locs hP hD hS => ?_)
      replace hP : va_P G vwCl ([(h, .inr (0, mmF ra q)), (ra, .inl (kk 4, 14, .inr (.inr (.inr (.inr (rowF ma (updN r1 (i - 1) (r1 i))))))))] ++ (stsF kk ma mg mu mr 0 14)) H := hP
      replace hD : va_D A ([(h, .inr (0, mmF ra q)), (ra, .inl (kk 4, 14, .inr (.inr (.inr (.inr (rowF ma (updN r1 (i - 1) (r1 i))))))))] ++ (stsF kk ma mg mu mr 0 14)) := hD
      refine lv_aload_n hx hb dX0_forgetOldest_34 rfl (lv_at hl 1 rfl) ?_
      refine r_get (v := .ref ra) hx hb hts hown hK hP fl_X0_11 0 rfl rfl dX0_forgetOldest_35 ?_
      refine lv_iload_n hx hb dX0_forgetOldest_38 rfl (lv_at hl 2 rfl) ?_
      refine lv_aload_n hx hb dX0_forgetOldest_39 rfl (lv_at hl 0 rfl) ?_
      refine r_aast hx hb hK hP hD hS 1 rfl i rfl (by omega) (by decide) (2 + 9 * (r1 (i - 1))) (r1 (i - 1)) (sts_at2 (hr1 _ (by omega))) dX0_forgetOldest_40 (fun H locs hP hD hS => ?_)
      replace hP : va_P G vwCl ([(h, .inr (0, mmF ra q)), (ra, .inl (kk 4, 14, .inr (.inr (.inr (.inr (rowF ma (updN (updN r1 (i - 1) (r1 i)) i (r1 (i - 1)))))))))] ++ (stsF kk ma mg mu mr 0 14)) H := hP
      replace hD : va_D A ([(h, .inr (0, mmF ra q)), (ra, .inl (kk 4, 14, .inr (.inr (.inr (.inr (rowF ma (updN (updN r1 (i - 1) (r1 i)) i (r1 (i - 1)))))))))] ++ (stsF kk ma mg mu mr 0 14)) := hD
      refine lv_iinc (v := (nI (i + 1))) (lv' := [(1, .int (nI (i + 1))), (2, .ref ((ma (r1 (i - 1))) 0)), (0, .ref h)]) hx hb dX0_forgetOldest_41 hl (k := 2) rfl (nI_add i 1) (by decide) rfl (fun ls hl => ?_)
      refine lv_goto (tgt := 2) hx hb dX0_forgetOldest_44 (by decide) ?_
      exact ih (i + 1) (updN (updN r1 (i - 1) (r1 i)) i (r1 (i - 1))) (by omega) (by omega) (fo_h hr1 (by omega) (by omega)) eS _ _ ls hP hD hS (lv_sub hl [2, 0] rfl)
  exact L_1 13 1 r (by decide) (Nat.le_refl 1) hrr eS _ _ ls hP hD hS (lv_sub hl [1, 0] rfl)
