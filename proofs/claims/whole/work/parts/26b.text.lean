theorem at_lt {q tx : Nat → Int32} {p sz : Nat} (hs : q 2 = nI sz) (hz : sz ≤ 120) (hp : p < 2 ^ 31) (h : ¬ sX8_at q tx p = -1) : p < sz := by
  unfold sX8_at at h
  by_cases c : q 2 ≤ nI p
  · rw [if_pos c] at h; exact absurd rfl h
  · exact at_l hs hz hp c
theorem at_48 {x : Int32} (h : ¬ sX8_in (x - 48).toInt64 0 9 = 0) : ¬ x = -1 := by
  rintro rfl
  exact h (by decide +kernel)
def lp_X8_figures_28 (q : Nat → Int32) (tx : Nat → Int32) (sp : Nat) (dg : Nat) (lo : Int32) (hi : Int32) (i : Nat) (u : Int32) : Nat → Int32 → Int32 → (Nat → Int32) → Nat → Int32 × (Nat → Int32)
  | 0, u1, v1, q1, p1 => (v1, q1)
  | d + 1, u1, v1, q1, p1 => (if (q1 13) = 0 then (v1, q1) else (if (sX8_in (((sX8_at q1 tx p1) - 48).toInt64) 0 9) = 0 then (lp_X8_figures_28 q tx sp dg lo hi i u d (u1 / 10) v1 (upd (upd q1 11 (nI (p1 + 0))) 13 0) (p1 + 0)) else (if hi < (v1 + (((sX8_at q1 tx p1) - 48) * u1)) then (lp_X8_figures_28 q tx sp dg lo hi i u d (u1 / 10) v1 (upd (upd q1 11 (nI (p1 + 0))) 13 0) (p1 + 0)) else (if (((v1 + (((sX8_at q1 tx p1) - 48) * u1)) + u1) - 1) < lo then (lp_X8_figures_28 q tx sp dg lo hi i u d (u1 / 10) v1 (upd (upd q1 11 (nI (p1 + 0))) 13 0) (p1 + 0)) else (lp_X8_figures_28 q tx sp dg lo hi i u d (u1 / 10) (v1 + (((sX8_at q1 tx p1) - 48) * u1)) (upd (upd q1 11 (nI (p1 + 1))) 13 1) (p1 + 1))))))
def lp_X8_figures_6 (q : Nat → Int32) (tx : Nat → Int32) (sp : Nat) (dg : Nat) (lo : Int32) (hi : Int32) : Nat → Nat → Int32 → Int32 × (Nat → Int32)
  | 0, i, u => (lp_X8_figures_28 q tx sp dg lo hi i u dg u 0 q sp)
  | d + 1, i, u => (lp_X8_figures_6 q tx sp dg lo hi d (i + 1) (u * 10))
def sX8_figures (q : Nat → Int32) (tx : Nat → Int32) (sp : Nat) (dg : Nat) (lo : Int32) (hi : Int32) : Int32 × (Nat → Int32) :=
  (lp_X8_figures_6 q tx sp dg lo hi (dg - 1) 1 1)
set_option maxRecDepth 100000 in
set_option maxHeartbeats 4000000 in
theorem c_X8_figures (l : Launch) (G : va_G) (kk : Nat → ClassId) (h : Nat) (b : Nat → Nat) (q : Nat → Int32) (tx : Nat → Int32) (sz : Nat) (sp : Nat) (dg : Nat) (lo : Int32) (hi : Int32) (hs : q 2 = nI sz) (hz : sz ≤ 120) (hp : q 11 = nI sp) (hps : sp ≤ sz) (hdg1 : 1 ≤ dg) (hdg4 : dg ≤ 4) (hzb : zb (q 13)) (hhi : hi.toInt ≤ 9999) : CC l yX8_figures cX8_figures 8 (some .int) (rmO 1 25) [.ref h, .int (nI dg), .int lo, .int hi] G kk ([(h, .inr (8, moF b q)), ((b 1), .inl (kk 0, 120, .inl tx))]) (QI G kk ([(h, .inr (8, moF b ((sX8_figures q tx sp dg lo hi).2))), ((b 1), .inl (kk 0, 120, .inl tx))]) ((sX8_figures q tx sp dg lo hi).1)) := by
  refine cc_start (by decide +kernel) (Nat.le_of_ble_eq_true rfl) ?_
  intro p e s m below meth c A ls hx hb hr hml hown hts hlocks hA hE hK hP hD hS hl
  have hown : s.vm.findClass RX8 = some m.cls := hown
  have hl : lv_has ls 8 [(0, .ref h), (1, .int (nI dg)), (2, .int lo), (3, .int hi)] := hl
  have eS : sX8_figures q tx sp dg lo hi = sX8_figures q tx sp dg lo hi := rfl
  refine lv_iconst (v := 1) hx hb dX8_figures_0 (by decide) ?_
  refine lv_istore (lv' := [(4, .int 1), (0, .ref h), (1, .int (nI dg)), (2, .int lo), (3, .int hi)]) hx hb dX8_figures_1 hl (by decide) rfl (fun ls hl => ?_)
  refine lv_iconst (v := 1) hx hb dX8_figures_3 (by decide) ?_
  refine lv_istore (lv' := [(5, .int 1), (4, .int 1), (0, .ref h), (1, .int (nI dg)), (2, .int lo), (3, .int hi)]) hx hb dX8_figures_4 hl (by decide) rfl (fun ls hl => ?_)
  have L_1 : ∀ (d : Nat) (i : Nat) (u : Int32) (hd : i + d = dg) (hu : u = UT i) (hi1 : 1 ≤ i) (eS : sX8_figures q tx sp dg lo hi = lp_X8_figures_6 q tx sp dg lo hi d i u) (H : Heap) (locs : List Loc) (ls : Array Slot) (hP : va_P G vwCl ([(h, .inr (8, moF b q)), ((b 1), .inl (kk 0, 120, .inl tx))]) H) (hD : va_D A ([(h, .inr (8, moF b q)), ((b 1), .inl (kk 0, 120, .inl tx))])) (hS : va_S A s.heap H locs) (hl : lv_has ls 8 [(0, .ref h), (1, .int (nI dg)), (2, .int lo), (3, .int hi), (5, .int (nI i)), (4, .int u)]), GO p l e (rmO 1 25) s m ([.ref h, .int (nI dg), .int lo, .int hi] : List Value).toArray below meth c A (QI G kk ([(h, .inr (8, moF b ((sX8_figures q tx sp dg lo hi).2))), ((b 1), .inl (kk 0, 120, .inl tx))]) ((sX8_figures q tx sp dg lo hi).1)) H locs (F0 m 6 ls []) := by
    intro d
    induction d with
    | zero =>
      intro i u hd hu hi1 eS H locs ls hP hD hS hl
      refine lv_iload hx hb dX8_figures_6 (lv_at hl 4 rfl) ?_
      refine lv_iload_n hx hb dX8_figures_8 rfl (lv_at hl 1 rfl) ?_
      refine lv_icmp_ge (tgt := 25) hx hb dX8_figures_9 (by decide) (fun c_9 => ?_) (fun c_9 => absurd (nI_le (a := dg) (b := i) (by omega) (by omega)) c_9)
      refine lv_iconst (v := 0) hx hb dX8_figures_25 (by decide) ?_
      refine lv_istore (lv' := [(5, .int 0), (0, .ref h), (1, .int (nI dg)), (2, .int lo), (3, .int hi), (4, .int u)]) hx hb dX8_figures_26 hl (by decide) rfl (fun ls hl => ?_)
      have L_2 : ∀ (d : Nat) (u1 : Int32) (v1 : Int32) (q1 : Nat → Int32) (p1 : Nat) (hu1 : u1 = UT d) (hd4 : d ≤ 4) (hp1 : q1 11 = nI p1) (hps1 : p1 ≤ sz) (hs1 : q1 2 = nI sz) (eS : sX8_figures q tx sp dg lo hi = lp_X8_figures_28 q tx sp dg lo hi i u d u1 v1 q1 p1) (H : Heap) (locs : List Loc) (ls : Array Slot) (hP : va_P G vwCl ([(h, .inr (8, moF b q1)), ((b 1), .inl (kk 0, 120, .inl tx))]) H) (hD : va_D A ([(h, .inr (8, moF b q1)), ((b 1), .inl (kk 0, 120, .inl tx))])) (hS : va_S A s.heap H locs) (hl : lv_has ls 8 [(0, .ref h), (1, .int (nI dg)), (2, .int lo), (3, .int hi), (4, .int u1), (5, .int v1)]), GO p l e (rmO 1 25) s m ([.ref h, .int (nI dg), .int lo, .int hi] : List Value).toArray below meth c A (QI G kk ([(h, .inr (8, moF b ((sX8_figures q tx sp dg lo hi).2))), ((b 1), .inl (kk 0, 120, .inl tx))]) ((sX8_figures q tx sp dg lo hi).1)) H locs (F0 m 28 ls []) := by
        intro d
        induction d with
        | zero =>
          intro u1 v1 q1 p1 hu1 hd4 hp1 hps1 hs1 eS H locs ls hP hD hS hl
          refine lv_iload hx hb dX8_figures_28 (lv_at hl 4 rfl) ?_
          refine lv_if_le (tgt := 149) hx hb dX8_figures_30 (by decide) (fun c_30 => ?_) (fun c_30 => absurd (ut_z hu1) c_30)
          refine lv_iload hx hb dX8_figures_149 (lv_at hl 5 rfl) ?_
          exact fin_i hx hb hr hlocks hK (vP_eq (congrArg (fun z : Int32 × (Nat → Int32) => ([(h, .inr (8, moF b z.2)), ((b 1), .inl (kk 0, 120, .inl tx))] : va_W)) eS.symm) hP) (vD_eq (congrArg (fun z : Int32 × (Nat → Int32) => ([(h, .inr (8, moF b z.2)), ((b 1), .inl (kk 0, 120, .inl tx))] : va_W)) eS.symm) hD) hS (congrArg (fun z : Int32 × (Nat → Int32) => z.1) eS) dX8_figures_151
        | succ d ih =>
          intro u1 v1 q1 p1 hu1 hd4 hp1 hps1 hs1 eS H locs ls hP hD hS hl
          refine lv_iload hx hb dX8_figures_28 (lv_at hl 4 rfl) ?_
          refine lv_if_le (tgt := 149) hx hb dX8_figures_30 (by decide) (fun c_30 => absurd c_30 (ut_s hu1 (by omega))) (fun c_30 => ?_)
          refine lv_aload_n hx hb dX8_figures_33 rfl (lv_at hl 0 rfl) ?_
          refine r_get (v := .int (q1 13)) hx hb hts hown hK hP fl_X8_123 0 rfl rfl dX8_figures_34 ?_
          refine lv_if_eq (tgt := 149) hx hb dX8_figures_37 (by decide) (fun c_37 => ?_) (fun c_37 => ?_)
          · have eS := eS.trans (if_pos c_37)
            refine lv_iload hx hb dX8_figures_149 (lv_at hl 5 rfl) ?_
            exact fin_i hx hb hr hlocks hK (vP_eq (congrArg (fun z : Int32 × (Nat → Int32) => ([(h, .inr (8, moF b z.2)), ((b 1), .inl (kk 0, 120, .inl tx))] : va_W)) eS.symm) hP) (vD_eq (congrArg (fun z : Int32 × (Nat → Int32) => ([(h, .inr (8, moF b z.2)), ((b 1), .inl (kk 0, 120, .inl tx))] : va_W)) eS.symm) hD) hS (congrArg (fun z : Int32 × (Nat → Int32) => z.1) eS) dX8_figures_151
          · have eS := eS.trans (if_neg c_37)
            refine lv_aload_n hx hb dX8_figures_40 rfl (lv_at hl 0 rfl) ?_
            refine lv_aload_n hx hb dX8_figures_41 rfl (lv_at hl 0 rfl) ?_
            refine r_get (v := .int (q1 11)) hx hb hts hown hK hP fl_X8_127 0 rfl rfl dX8_figures_42 ?_
            refine top_eq (y := (nI p1)) (hp1) ?_
            refine k_goI (k_runV (rest := []) (As := [.int (nI p1)]) hx hb hml hown hts hK hP hD hS hA hE hl.1 (c_X8_at l G kk h b q1 tx sz p1 hs1 hz (by omega)) vl_X8_130 rfl rfl rfl ⟨Nat.le_of_ble_eq_true rfl, Nat.le_of_ble_eq_true rfl, rfl, rfl⟩ [0, 1] rfl rfl ⟨Nat.zero_le _, Nat.zero_le _⟩ rfl (Nat.le_of_ble_eq_true rfl) dX8_figures_45) hP hD hS hA [0, 1] rfl ads2 (fun H locs hP hD hS => ?_)
            replace hP : va_P G vwCl ([(h, .inr (8, moF b q1)), ((b 1), .inl (kk 0, 120, .inl tx))]) H := hP
            replace hD : va_D A ([(h, .inr (8, moF b q1)), ((b 1), .inl (kk 0, 120, .inl tx))]) := hD
            refine lv_bipush (v := 48) hx hb dX8_figures_48 (by decide) ?_
            refine lv_isub hx hb dX8_figures_50 ?_
            refine lv_istore (lv' := [(6, .int ((sX8_at q1 tx p1) - 48)), (0, .ref h), (1, .int (nI dg)), (2, .int lo), (3, .int hi), (4, .int u1), (5, .int v1)]) hx hb dX8_figures_51 hl (by decide) rfl (fun ls hl => ?_)
            refine lv_iload hx hb dX8_figures_53 (lv_at hl 6 rfl) ?_
            refine lv_iload hx hb dX8_figures_55 (lv_at hl 0 rfl) ?_
            refine lv_iload hx hb dX8_figures_57 (lv_at hl 5 rfl) ?_
            refine lv_imul hx hb dX8_figures_59 ?_
            refine lv_iadd hx hb dX8_figures_60 ?_
            refine lv_istore (lv' := [(7, .int (v1 + (((sX8_at q1 tx p1) - 48) * u1))), (6, .int ((sX8_at q1 tx p1) - 48)), (0, .ref h), (1, .int (nI dg)), (2, .int lo), (3, .int hi), (4, .int u1), (5, .int v1)]) hx hb dX8_figures_61 hl (by decide) rfl (fun ls hl => ?_)
            refine lv_aload_n hx hb dX8_figures_63 rfl (lv_at hl 2 rfl) ?_
            refine lv_iload hx hb dX8_figures_64 (lv_at hl 1 rfl) ?_
            refine lv_i2l (v := (((sX8_at q1 tx p1) - 48).toInt64)) hx hb dX8_figures_66 (by first | rfl | decide) ?_
            refine lv_lconst (v := 0) hx hb dX8_figures_67 rfl ?_
            refine lv_ldc2 (v := 9) hx hb hown (hts _ kl_X8_134) dX8_figures_68 ?_
            refine k_goI (k_runS (rest := [.ref h]) (As := [.long (((sX8_at q1 tx p1) - 48).toInt64), .long 0, .long 9]) hx hb hml hown hts hK hP hD hS hA hE hl.1 (c_X8_in l G kk (((sX8_at q1 tx p1) - 48).toInt64) 0 9 ) sl_X8_40 ⟨Nat.le_of_ble_eq_true rfl, Nat.le_of_ble_eq_true rfl, rfl, rfl⟩ [] rfl rfl ⟨Nat.zero_le _, Nat.zero_le _⟩ rfl (Nat.le_of_ble_eq_true rfl) dX8_figures_71) hP hD hS hA [] rfl ads0 (fun H locs hP hD hS => ?_)
            replace hP : va_P G vwCl ([(h, .inr (8, moF b q1)), ((b 1), .inl (kk 0, 120, .inl tx))]) H := hP
            replace hD : va_D A ([(h, .inr (8, moF b q1)), ((b 1), .inl (kk 0, 120, .inl tx))]) := hD
            refine lv_if_eq (tgt := 98) hx hb dX8_figures_74 (by decide) (fun c_74 => ?_) (fun c_74 => ?_)
            · have eS := eS.trans (if_pos c_74)
              refine lv_iconst (v := 0) hx hb dX8_figures_98 (by decide) ?_
              refine r_put hx hb hts hown hK hP hD hS fl_X8_123 fw_8_13 0 rfl rfl rfl (Nat.le_of_ble_eq_true rfl) dX8_figures_99 (fun H locs hP hD hS => ?_)
              replace hP : va_P G vwCl ([(h, .inr (8, moF b (upd q1 13 0))), ((b 1), .inl (kk 0, 120, .inl tx))]) H := hP
              replace hD : va_D A ([(h, .inr (8, moF b (upd q1 13 0))), ((b 1), .inl (kk 0, 120, .inl tx))]) := hD
              refine lv_aload_n hx hb dX8_figures_102 rfl (lv_at hl 2 rfl) ?_
              refine r_get (v := .int 0) hx hb hts hown hK hP fl_X8_123 0 rfl rfl dX8_figures_103 ?_
              refine lv_if_eq (tgt := 114) hx hb dX8_figures_106 (by decide) (fun c_106 => ?_) (fun c_106 => absurd (by decide) c_106)
              refine lv_iload hx hb dX8_figures_114 (lv_at hl 7 rfl) ?_
              refine lv_istore (lv' := [(5, .int v1), (7, .int (v1 + (((sX8_at q1 tx p1) - 48) * u1))), (6, .int ((sX8_at q1 tx p1) - 48)), (0, .ref h), (1, .int (nI dg)), (2, .int lo), (3, .int hi), (4, .int u1)]) hx hb dX8_figures_116 hl (by decide) rfl (fun ls hl => ?_)
              refine lv_aload_n hx hb dX8_figures_118 rfl (lv_at hl 3 rfl) ?_
              refine lv_dup hx hb dX8_figures_119 rfl ?_
              refine r_get (v := .int (q1 11)) hx hb hts hown hK hP fl_X8_127 0 rfl rfl dX8_figures_120 ?_
              refine top_eq (y := (nI p1)) (hp1) ?_
              refine lv_aload_n hx hb dX8_figures_123 rfl (lv_at hl 3 rfl) ?_
              refine r_get (v := .int 0) hx hb hts hown hK hP fl_X8_123 0 rfl rfl dX8_figures_124 ?_
              refine lv_if_eq (tgt := 134) hx hb dX8_figures_127 (by decide) (fun c_127 => ?_) (fun c_127 => absurd (by decide) c_127)
              refine lv_iconst (v := 0) hx hb dX8_figures_134 (by decide) ?_
              refine lv_iadd hx hb dX8_figures_135 ?_
              refine top_eq (nI_add p1 0) ?_
              refine r_put hx hb hts hown hK hP hD hS fl_X8_127 fw_8_11 0 rfl rfl rfl (Nat.le_of_ble_eq_true rfl) dX8_figures_136 (fun H locs hP hD hS => ?_)
              replace hP : va_P G vwCl ([(h, .inr (8, moF b (upd (upd q1 11 (nI (p1 + 0))) 13 0))), ((b 1), .inl (kk 0, 120, .inl tx))]) H := hP
              replace hD : va_D A ([(h, .inr (8, moF b (upd (upd q1 11 (nI (p1 + 0))) 13 0))), ((b 1), .inl (kk 0, 120, .inl tx))]) := hD
              refine lv_iload hx hb dX8_figures_139 (lv_at hl 7 rfl) ?_
              refine lv_bipush (v := 10) hx hb dX8_figures_141 (by decide) ?_
              refine lv_idiv hx hb dX8_figures_143 (by decide) ?_
              refine lv_istore (lv' := [(4, .int (u1 / 10)), (5, .int v1), (7, .int (v1 + (((sX8_at q1 tx p1) - 48) * u1))), (6, .int ((sX8_at q1 tx p1) - 48)), (0, .ref h), (1, .int (nI dg)), (2, .int lo), (3, .int hi)]) hx hb dX8_figures_144 hl (by decide) rfl (fun ls hl => ?_)
              refine lv_goto (tgt := 28) hx hb dX8_figures_146 (by decide) ?_
              exact ih (u1 / 10) v1 (upd (upd q1 11 (nI (p1 + 0))) 13 0) (p1 + 0) (ut_d hu1 (by omega)) (by omega) ((pk_un (by decide)).trans pk_us) (by omega) ((pk_un (by decide)).trans ((pk_un (by decide)).trans hs1)) eS _ _ ls hP hD hS (lv_sub hl [4, 5, 6, 7, 0, 1] rfl)
            · have eS := eS.trans (if_neg c_74)
              refine lv_iload hx hb dX8_figures_77 (lv_at hl 0 rfl) ?_
              refine lv_iload_n hx hb dX8_figures_79 rfl (lv_at hl 5 rfl) ?_
              refine lv_icmp_gt (tgt := 98) hx hb dX8_figures_80 (by decide) (fun c_80 => ?_) (fun c_80 => ?_)
              · have eS := eS.trans (if_pos c_80)
                refine lv_iconst (v := 0) hx hb dX8_figures_98 (by decide) ?_
                refine r_put hx hb hts hown hK hP hD hS fl_X8_123 fw_8_13 0 rfl rfl rfl (Nat.le_of_ble_eq_true rfl) dX8_figures_99 (fun H locs hP hD hS => ?_)
                replace hP : va_P G vwCl ([(h, .inr (8, moF b (upd q1 13 0))), ((b 1), .inl (kk 0, 120, .inl tx))]) H := hP
                replace hD : va_D A ([(h, .inr (8, moF b (upd q1 13 0))), ((b 1), .inl (kk 0, 120, .inl tx))]) := hD
                refine lv_aload_n hx hb dX8_figures_102 rfl (lv_at hl 2 rfl) ?_
                refine r_get (v := .int 0) hx hb hts hown hK hP fl_X8_123 0 rfl rfl dX8_figures_103 ?_
                refine lv_if_eq (tgt := 114) hx hb dX8_figures_106 (by decide) (fun c_106 => ?_) (fun c_106 => absurd (by decide) c_106)
                refine lv_iload hx hb dX8_figures_114 (lv_at hl 7 rfl) ?_
                refine lv_istore (lv' := [(5, .int v1), (7, .int (v1 + (((sX8_at q1 tx p1) - 48) * u1))), (6, .int ((sX8_at q1 tx p1) - 48)), (0, .ref h), (1, .int (nI dg)), (2, .int lo), (3, .int hi), (4, .int u1)]) hx hb dX8_figures_116 hl (by decide) rfl (fun ls hl => ?_)
                refine lv_aload_n hx hb dX8_figures_118 rfl (lv_at hl 3 rfl) ?_
                refine lv_dup hx hb dX8_figures_119 rfl ?_
                refine r_get (v := .int (q1 11)) hx hb hts hown hK hP fl_X8_127 0 rfl rfl dX8_figures_120 ?_
                refine top_eq (y := (nI p1)) (hp1) ?_
                refine lv_aload_n hx hb dX8_figures_123 rfl (lv_at hl 3 rfl) ?_
                refine r_get (v := .int 0) hx hb hts hown hK hP fl_X8_123 0 rfl rfl dX8_figures_124 ?_
                refine lv_if_eq (tgt := 134) hx hb dX8_figures_127 (by decide) (fun c_127 => ?_) (fun c_127 => absurd (by decide) c_127)
                refine lv_iconst (v := 0) hx hb dX8_figures_134 (by decide) ?_
                refine lv_iadd hx hb dX8_figures_135 ?_
                refine top_eq (nI_add p1 0) ?_
                refine r_put hx hb hts hown hK hP hD hS fl_X8_127 fw_8_11 0 rfl rfl rfl (Nat.le_of_ble_eq_true rfl) dX8_figures_136 (fun H locs hP hD hS => ?_)
                replace hP : va_P G vwCl ([(h, .inr (8, moF b (upd (upd q1 11 (nI (p1 + 0))) 13 0))), ((b 1), .inl (kk 0, 120, .inl tx))]) H := hP
                replace hD : va_D A ([(h, .inr (8, moF b (upd (upd q1 11 (nI (p1 + 0))) 13 0))), ((b 1), .inl (kk 0, 120, .inl tx))]) := hD
                refine lv_iload hx hb dX8_figures_139 (lv_at hl 7 rfl) ?_
                refine lv_bipush (v := 10) hx hb dX8_figures_141 (by decide) ?_
                refine lv_idiv hx hb dX8_figures_143 (by decide) ?_
                refine lv_istore (lv' := [(4, .int (u1 / 10)), (5, .int v1), (7, .int (v1 + (((sX8_at q1 tx p1) - 48) * u1))), (6, .int ((sX8_at q1 tx p1) - 48)), (0, .ref h), (1, .int (nI dg)), (2, .int lo), (3, .int hi)]) hx hb dX8_figures_144 hl (by decide) rfl (fun ls hl => ?_)
                refine lv_goto (tgt := 28) hx hb dX8_figures_146 (by decide) ?_
                exact ih (u1 / 10) v1 (upd (upd q1 11 (nI (p1 + 0))) 13 0) (p1 + 0) (ut_d hu1 (by omega)) (by omega) ((pk_un (by decide)).trans pk_us) (by omega) ((pk_un (by decide)).trans ((pk_un (by decide)).trans hs1)) eS _ _ ls hP hD hS (lv_sub hl [4, 5, 6, 7, 0, 1] rfl)
              · have eS := eS.trans (if_neg c_80)
                refine lv_iload hx hb dX8_figures_83 (lv_at hl 0 rfl) ?_
                refine lv_iload hx hb dX8_figures_85 (lv_at hl 6 rfl) ?_
                refine lv_iadd hx hb dX8_figures_87 ?_
                refine lv_iconst (v := 1) hx hb dX8_figures_88 (by decide) ?_
                refine lv_isub hx hb dX8_figures_89 ?_
                refine lv_iload_n hx hb dX8_figures_90 rfl (lv_at hl 4 rfl) ?_
                refine lv_icmp_lt (tgt := 98) hx hb dX8_figures_91 (by decide) (fun c_91 => ?_) (fun c_91 => ?_)
                · have eS := eS.trans (if_pos c_91)
                  refine lv_iconst (v := 0) hx hb dX8_figures_98 (by decide) ?_
                  refine r_put hx hb hts hown hK hP hD hS fl_X8_123 fw_8_13 0 rfl rfl rfl (Nat.le_of_ble_eq_true rfl) dX8_figures_99 (fun H locs hP hD hS => ?_)
                  replace hP : va_P G vwCl ([(h, .inr (8, moF b (upd q1 13 0))), ((b 1), .inl (kk 0, 120, .inl tx))]) H := hP
                  replace hD : va_D A ([(h, .inr (8, moF b (upd q1 13 0))), ((b 1), .inl (kk 0, 120, .inl tx))]) := hD
                  refine lv_aload_n hx hb dX8_figures_102 rfl (lv_at hl 2 rfl) ?_
                  refine r_get (v := .int 0) hx hb hts hown hK hP fl_X8_123 0 rfl rfl dX8_figures_103 ?_
                  refine lv_if_eq (tgt := 114) hx hb dX8_figures_106 (by decide) (fun c_106 => ?_) (fun c_106 => absurd (by decide) c_106)
                  refine lv_iload hx hb dX8_figures_114 (lv_at hl 7 rfl) ?_
                  refine lv_istore (lv' := [(5, .int v1), (7, .int (v1 + (((sX8_at q1 tx p1) - 48) * u1))), (6, .int ((sX8_at q1 tx p1) - 48)), (0, .ref h), (1, .int (nI dg)), (2, .int lo), (3, .int hi), (4, .int u1)]) hx hb dX8_figures_116 hl (by decide) rfl (fun ls hl => ?_)
                  refine lv_aload_n hx hb dX8_figures_118 rfl (lv_at hl 3 rfl) ?_
                  refine lv_dup hx hb dX8_figures_119 rfl ?_
                  refine r_get (v := .int (q1 11)) hx hb hts hown hK hP fl_X8_127 0 rfl rfl dX8_figures_120 ?_
                  refine top_eq (y := (nI p1)) (hp1) ?_
                  refine lv_aload_n hx hb dX8_figures_123 rfl (lv_at hl 3 rfl) ?_
                  refine r_get (v := .int 0) hx hb hts hown hK hP fl_X8_123 0 rfl rfl dX8_figures_124 ?_
                  refine lv_if_eq (tgt := 134) hx hb dX8_figures_127 (by decide) (fun c_127 => ?_) (fun c_127 => absurd (by decide) c_127)
                  refine lv_iconst (v := 0) hx hb dX8_figures_134 (by decide) ?_
                  refine lv_iadd hx hb dX8_figures_135 ?_
                  refine top_eq (nI_add p1 0) ?_
                  refine r_put hx hb hts hown hK hP hD hS fl_X8_127 fw_8_11 0 rfl rfl rfl (Nat.le_of_ble_eq_true rfl) dX8_figures_136 (fun H locs hP hD hS => ?_)
                  replace hP : va_P G vwCl ([(h, .inr (8, moF b (upd (upd q1 11 (nI (p1 + 0))) 13 0))), ((b 1), .inl (kk 0, 120, .inl tx))]) H := hP
                  replace hD : va_D A ([(h, .inr (8, moF b (upd (upd q1 11 (nI (p1 + 0))) 13 0))), ((b 1), .inl (kk 0, 120, .inl tx))]) := hD
                  refine lv_iload hx hb dX8_figures_139 (lv_at hl 7 rfl) ?_
                  refine lv_bipush (v := 10) hx hb dX8_figures_141 (by decide) ?_
                  refine lv_idiv hx hb dX8_figures_143 (by decide) ?_
                  refine lv_istore (lv' := [(4, .int (u1 / 10)), (5, .int v1), (7, .int (v1 + (((sX8_at q1 tx p1) - 48) * u1))), (6, .int ((sX8_at q1 tx p1) - 48)), (0, .ref h), (1, .int (nI dg)), (2, .int lo), (3, .int hi)]) hx hb dX8_figures_144 hl (by decide) rfl (fun ls hl => ?_)
                  refine lv_goto (tgt := 28) hx hb dX8_figures_146 (by decide) ?_
                  exact ih (u1 / 10) v1 (upd (upd q1 11 (nI (p1 + 0))) 13 0) (p1 + 0) (ut_d hu1 (by omega)) (by omega) ((pk_un (by decide)).trans pk_us) (by omega) ((pk_un (by decide)).trans ((pk_un (by decide)).trans hs1)) eS _ _ ls hP hD hS (lv_sub hl [4, 5, 6, 7, 0, 1] rfl)
                · have eS := eS.trans (if_neg c_91)
                  have hlt := at_lt hs1 hz (by omega) (at_48 c_74)
                  refine lv_iconst (v := 1) hx hb dX8_figures_94 (by decide) ?_
                  refine lv_goto (tgt := 99) hx hb dX8_figures_95 (by decide) ?_
                  refine r_put hx hb hts hown hK hP hD hS fl_X8_123 fw_8_13 0 rfl rfl rfl (Nat.le_of_ble_eq_true rfl) dX8_figures_99 (fun H locs hP hD hS => ?_)
                  replace hP : va_P G vwCl ([(h, .inr (8, moF b (upd q1 13 1))), ((b 1), .inl (kk 0, 120, .inl tx))]) H := hP
                  replace hD : va_D A ([(h, .inr (8, moF b (upd q1 13 1))), ((b 1), .inl (kk 0, 120, .inl tx))]) := hD
                  refine lv_aload_n hx hb dX8_figures_102 rfl (lv_at hl 2 rfl) ?_
                  refine r_get (v := .int 1) hx hb hts hown hK hP fl_X8_123 0 rfl rfl dX8_figures_103 ?_
                  refine lv_if_eq (tgt := 114) hx hb dX8_figures_106 (by decide) (fun c_106 => absurd c_106 (by decide)) (fun c_106 => ?_)
                  refine lv_iload hx hb dX8_figures_109 (lv_at hl 0 rfl) ?_
                  refine lv_goto (tgt := 116) hx hb dX8_figures_111 (by decide) ?_
                  refine lv_istore (lv' := [(5, .int (v1 + (((sX8_at q1 tx p1) - 48) * u1))), (7, .int (v1 + (((sX8_at q1 tx p1) - 48) * u1))), (6, .int ((sX8_at q1 tx p1) - 48)), (0, .ref h), (1, .int (nI dg)), (2, .int lo), (3, .int hi), (4, .int u1)]) hx hb dX8_figures_116 hl (by decide) rfl (fun ls hl => ?_)
                  refine lv_aload_n hx hb dX8_figures_118 rfl (lv_at hl 3 rfl) ?_
                  refine lv_dup hx hb dX8_figures_119 rfl ?_
                  refine r_get (v := .int (q1 11)) hx hb hts hown hK hP fl_X8_127 0 rfl rfl dX8_figures_120 ?_
                  refine top_eq (y := (nI p1)) (hp1) ?_
                  refine lv_aload_n hx hb dX8_figures_123 rfl (lv_at hl 3 rfl) ?_
                  refine r_get (v := .int 1) hx hb hts hown hK hP fl_X8_123 0 rfl rfl dX8_figures_124 ?_
                  refine lv_if_eq (tgt := 134) hx hb dX8_figures_127 (by decide) (fun c_127 => absurd c_127 (by decide)) (fun c_127 => ?_)
                  refine lv_iconst (v := 1) hx hb dX8_figures_130 (by decide) ?_
                  refine lv_goto (tgt := 135) hx hb dX8_figures_131 (by decide) ?_
                  refine lv_iadd hx hb dX8_figures_135 ?_
                  refine top_eq (nI_add p1 1) ?_
                  refine r_put hx hb hts hown hK hP hD hS fl_X8_127 fw_8_11 0 rfl rfl rfl (Nat.le_of_ble_eq_true rfl) dX8_figures_136 (fun H locs hP hD hS => ?_)
                  replace hP : va_P G vwCl ([(h, .inr (8, moF b (upd (upd q1 11 (nI (p1 + 1))) 13 1))), ((b 1), .inl (kk 0, 120, .inl tx))]) H := hP
                  replace hD : va_D A ([(h, .inr (8, moF b (upd (upd q1 11 (nI (p1 + 1))) 13 1))), ((b 1), .inl (kk 0, 120, .inl tx))]) := hD
                  refine lv_iload hx hb dX8_figures_139 (lv_at hl 7 rfl) ?_
                  refine lv_bipush (v := 10) hx hb dX8_figures_141 (by decide) ?_
                  refine lv_idiv hx hb dX8_figures_143 (by decide) ?_
                  refine lv_istore (lv' := [(4, .int (u1 / 10)), (5, .int (v1 + (((sX8_at q1 tx p1) - 48) * u1))), (7, .int (v1 + (((sX8_at q1 tx p1) - 48) * u1))), (6, .int ((sX8_at q1 tx p1) - 48)), (0, .ref h), (1, .int (nI dg)), (2, .int lo), (3, .int hi)]) hx hb dX8_figures_144 hl (by decide) rfl (fun ls hl => ?_)
                  refine lv_goto (tgt := 28) hx hb dX8_figures_146 (by decide) ?_
                  exact ih (u1 / 10) (v1 + (((sX8_at q1 tx p1) - 48) * u1)) (upd (upd q1 11 (nI (p1 + 1))) 13 1) (p1 + 1) (ut_d hu1 (by omega)) (by omega) ((pk_un (by decide)).trans pk_us) (by omega) ((pk_un (by decide)).trans ((pk_un (by decide)).trans hs1)) eS _ _ ls hP hD hS (lv_sub hl [4, 5, 6, 7, 0, 1] rfl)
      exact L_2 dg u 0 q sp (hu.trans (by rw [show i = dg by omega])) hdg4 hp hps hs eS _ _ ls hP hD hS (lv_sub hl [1, 2, 3, 4, 5, 0] rfl)
    | succ d ih =>
      intro i u hd hu hi1 eS H locs ls hP hD hS hl
      refine lv_iload hx hb dX8_figures_6 (lv_at hl 4 rfl) ?_
      refine lv_iload_n hx hb dX8_figures_8 rfl (lv_at hl 1 rfl) ?_
      refine lv_icmp_ge (tgt := 25) hx hb dX8_figures_9 (by decide) (fun c_9 => absurd c_9 (nI_ge (a := i) (b := dg) (by omega) (by omega))) (fun c_9 => ?_)
      refine lv_iload hx hb dX8_figures_12 (lv_at hl 5 rfl) ?_
      refine lv_bipush (v := 10) hx hb dX8_figures_14 (by decide) ?_
      refine lv_imul hx hb dX8_figures_16 ?_
      refine lv_istore (lv' := [(4, .int (u * 10)), (0, .ref h), (1, .int (nI dg)), (2, .int lo), (3, .int hi), (5, .int (nI i))]) hx hb dX8_figures_17 hl (by decide) rfl (fun ls hl => ?_)
      refine lv_iinc (v := (nI (i + 1))) (lv' := [(5, .int (nI (i + 1))), (4, .int (u * 10)), (0, .ref h), (1, .int (nI dg)), (2, .int lo), (3, .int hi)]) hx hb dX8_figures_19 hl (k := 5) rfl (nI_add i 1) (by decide) rfl (fun ls hl => ?_)
      refine lv_goto (tgt := 6) hx hb dX8_figures_22 (by decide) ?_
      exact ih (i + 1) (u * 10) (by omega) (ut_m hu hi1 (by omega)) (by omega) eS _ _ ls hP hD hS (lv_sub hl [2, 3, 4, 5, 0, 1] rfl)
  exact L_1 (dg - 1) 1 1 (by omega) rfl (Nat.le_refl 1) eS _ _ ls hP hD hS (lv_sub hl [2, 3, 4, 5, 0, 1] rfl)
