set_option maxRecDepth 100000 in
theorem LH2_C {kk : Nat → ClassId} {h : Nat} {ad : Nat → Nat → Nat} {t : Nat} {sa : Nat} {ra : Nat} {ma : Nat → Nat → Nat} {b6 : Nat → Nat} {b7 : Nat → Nat} {mo : Nat} {b : Nat → Nat} {o : Nat} {q : Nat → Int32} {tq : Nat → Int32} {sg : Nat → Int32} {g : Nat → Int32} {u : Nat → Int32} {rv : Nat → Nat → Int32} {g4 : Nat → Int32} {u4 : Nat → Int32} {rv4 : Nat → Nat → Int32} {mq : Nat → Int32} {r : Nat → Nat} {mg : Nat → Nat → Int32} {mu : Nat → Nat → Int32} {mr : Nat → Nat → Nat → Int32} {s0 : Nat → Int32} {g6 : Nat → Int32} {u6 : Nat → Int32} {rv6 : Nat → Nat → Int32} {s1 : Nat → Int32} {g7 : Nat → Int32} {u7 : Nat → Int32} {rv7 : Nat → Nat → Int32} {qm : Nat → Int32} {tx : Nat → Int32} {f : Nat → Int32} {ft : Nat → Int32} {dy : Nat → Int32} {kp : Nat → Int32} {ik : Nat → Int32} {jb : Nat → Int32} {fo : Nat → Int64} : ([0, 1, 2, 3]).map (fun i => (LWD kk h ad t sa ra ma b6 b7 mo b o q tq sg g u rv g4 u4 rv4 mq r mg mu mr s0 g6 u6 rv6 s1 g7 u7 rv7 qm tx f ft dy kp ik jb fo)[i]?) = List.map some ([(h, .inr (7, mrG ad)), (((ad 1) 0), .inr (1, rdF t q)), (t, .inr (6, txF sa tq)), (sa, .inl (kk 1, 120, .inl sg))]) := (mp_c LC_0 (mp_c LC_1 (mp_c LC_2 (mp_c LC_3 mp_nil))))
set_option maxRecDepth 100000 in
theorem LH2_S {kk : Nat → ClassId} {h : Nat} {ad : Nat → Nat → Nat} {t : Nat} {sa : Nat} {ra : Nat} {ma : Nat → Nat → Nat} {b6 : Nat → Nat} {b7 : Nat → Nat} {mo : Nat} {b : Nat → Nat} {o : Nat} {q : Nat → Int32} {tq : Nat → Int32} {sg : Nat → Int32} {g : Nat → Int32} {u : Nat → Int32} {rv : Nat → Nat → Int32} {g4 : Nat → Int32} {u4 : Nat → Int32} {rv4 : Nat → Nat → Int32} {mq : Nat → Int32} {r : Nat → Nat} {mg : Nat → Nat → Int32} {mu : Nat → Nat → Int32} {mr : Nat → Nat → Nat → Int32} {s0 : Nat → Int32} {g6 : Nat → Int32} {u6 : Nat → Int32} {rv6 : Nat → Nat → Int32} {s1 : Nat → Int32} {g7 : Nat → Int32} {u7 : Nat → Int32} {rv7 : Nat → Nat → Int32} {qm : Nat → Int32} {tx : Nat → Int32} {f : Nat → Int32} {ft : Nat → Int32} {dy : Nat → Int32} {kp : Nat → Int32} {ik : Nat → Int32} {jb : Nat → Int32} {fo : Nat → Int64} {q' : Nat → Int32} : setMany (LWD kk h ad t sa ra ma b6 b7 mo b o q tq sg g u rv g4 u4 rv4 mq r mg mu mr s0 g6 u6 rv6 s1 g7 u7 rv7 qm tx f ft dy kp ik jb fo) ([0, 1, 2, 3]) ([(h, .inr (7, mrG ad)), (((ad 1) 0), .inr (1, rdF t (q'))), (t, .inr (6, txF sa tq)), (sa, .inl (kk 1, 120, .inl sg))]) = LWD kk h ad t sa ra ma b6 b7 mo b o q' tq sg g u rv g4 u4 rv4 mq r mg mu mr s0 g6 u6 rv6 s1 g7 u7 rv7 qm tx f ft dy kp ik jb fo := (sm_c LS_0 (sm_c LS_1 (sm_c LS_2 (sm_c LS_3 rfl))))
set_option maxRecDepth 100000 in
set_option maxHeartbeats 4000000 in
theorem lw_2 {p : Program} {l : Launch} {e : Env} {s : State} {m : MethodId} {below : List Frame} {meth : Method} {c : Code} {sb L : Nat} {xs : Nat → Int32} {G : va_G} {kk : Nat → ClassId} {A : Nat → Prop} {Q : State → Prop} {h : Nat} {ad : Nat → Nat → Nat} {t : Nat} {sa : Nat} {ra : Nat} {ma : Nat → Nat → Nat} {b6 : Nat → Nat} {b7 : Nat → Nat} {mo : Nat} {b : Nat → Nat} {o : Nat} {i4 : Int32} {B C S : Nat} (X : LX p l e s m below meth c sb L xs G kk A Q) (hB : 7200 ≤ B) (hB2 : B ≤ 60000) (hC : C + 1 ≤ 601024) (hS0 : S + 6 ≤ 7293034) (N : NXT p l e s m below meth c sb L xs G kk A Q h ad t sa ra ma b6 b7 mo b o i4 1424 (B + 60) (C + 1) (S + 6)) : NXT p l e s m below meth c sb L xs G kk A Q h ad t sa ra ma b6 b7 mo b o i4 213 B C S := by
  intro q tq sg g u rv g4 u4 rv4 mq r mg mu mr s0 g6 u6 rv6 s1 g7 u7 rv7 qm tx f ft dy kp ik jb fo inv H locs ls hP hD hS hl
  obtain ⟨hst, hx, hb, hr, hml, hown, hts, hX, hbl, hlocks, hA, hbA, hE, hN, hK⟩ := X
  obtain ⟨⟨sz, T⟩, ⟨cc, M⟩, S0, S1, ⟨n, sr, ok⟩, n0⟩ := inv
  have hcH := c_X7_errorPosition l G kk h ad t sa q tq sg 
  have hcM := c_X8_errorPosition l G kk mo b qm tx f ft dy kp ik jb sz T.2.1 T.2.2.1
  obtain ⟨E, E0, K⟩ := op_error (f := f) (ft := ft) (dy := dy) (kp := kp) (ik := ik) (jb := jb) T q
  generalize sX7_errorPosition q tq sg = Z at hcH E E0 K
  generalize sX8_errorPosition qm tx f ft dy kp ik jb = R at hcM E E0 K
  have hl : lv_has ls 7 [(0, .ref sb), (1, .ref h), (2, .ref mo), (3, .ref o), (4, .int i4)] := hl
  refine lv_aload_n hx hb dL_law_213 rfl (lv_at hl 1 rfl) ?_
  refine k_goI (k_runV (rest := []) (As := []) hx hb hml hown hts hK hP hD hS hA hE hl.1 hcH vl_L_96 rfl rfl rfl ⟨Nat.le_of_ble_eq_true rfl, Nat.le_of_ble_eq_true rfl, rfl, rfl⟩ ([0, 1, 2, 3]) (by decide +kernel) LH2_C ⟨by show C ≤ 601024; omega, by show S ≤ 7293034; omega⟩ rfl (Nat.le_of_ble_eq_true rfl) dL_law_214) hP hD hS hA ([0, 1, 2, 3]) LH2_C ads4 (fun H locs hP hD hS => ?_)
  replace hP := vP_eq2 hP LH2_S
  replace hD := vD_eq2 hD LH2_S
  refine lv_aload_n hx hb dL_law_217 rfl (lv_at hl 2 rfl) ?_
  refine k_goI (k_runV (rest := [.int Z.1]) (As := []) hx hb hml hown hts hK hP hD hS hA hE hl.1 hcM vl_L_99 rfl rfl rfl ⟨Nat.le_of_ble_eq_true rfl, Nat.le_of_ble_eq_true rfl, rfl, rfl⟩ (List.range' 179 8) (by decide +kernel) LM_C ⟨by show C ≤ 601024; omega, by show S ≤ 7293034; omega⟩ rfl (Nat.le_of_ble_eq_true rfl) dL_law_218) hP hD hS hA (List.range' 179 8) LM_C ads8 (fun H locs hP hD hS => ?_)
  replace hP := vP_eq2 hP LM_S
  replace hD := vD_eq2 hD LM_S
  refine lv_icmp_eq (tgt := 1424) hx hb dL_law_221 (by decide) (fun _ => ?_) (fun hne => absurd E hne)
  have hT : ∃ sz, TXT tq sg (R.2.1 2) tx sz := ⟨sz, by rw [K 2 (by decide) (by decide) (by decide) (by decide) (by decide)]; exact T⟩
  have hM : ∃ cc, MEM (B + 60) cc mq r mg mu mr (R.2.1 6) dy := ⟨cc, by rw [K 6 (by decide) (by decide) (by decide) (by decide) (by decide)]; exact M.mono (Nat.le_add_right _ _)⟩
  have hS0 := S0.mono (Nat.le_add_right B 60)
  have hS1 := S1.mono (Nat.le_add_right B 60)
  have hST : ST (B + 60) f g u rv := ⟨n, sr, ok.mono (Nat.le_add_right _ _)⟩
  have hn0 := n0
  refine W.widen (k := C + 1) (n := S + 6) (by omega) (by omega) ?_
  exact N Z.2 tq sg g u rv g4 u4 rv4 mq r mg mu mr s0 g6 u6 rv6 s1 g7 u7 rv7 R.2.1 tx f R.2.2.1 dy kp ik R.2.2.2 fo ⟨hT, hM, hS0, hS1, hST, hn0⟩ H locs ls hP hD hS hl
