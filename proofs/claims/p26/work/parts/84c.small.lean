/-! The law's small methods -/
def sL_thrown (v : Int32) : Int32 :=
  (if v = (-9999001) then 1 else (if v = (-9999002) then 1 else (if v = (-9999003) then 1 else 0)))
set_option maxRecDepth 100000 in
set_option maxHeartbeats 4000000 in
theorem c_L_thrown (l : Launch) (G : va_G) (kk : Nat → ClassId) (v : Int32)  : CC l yL_thrown cL_thrown 1 (some .boolean) (rmO 0 0) [.int v] G kk ([]) (QI G kk ([]) (sL_thrown v)) := by
  refine cc_start (by decide +kernel) (Nat.le_of_ble_eq_true rfl) ?_
  intro p e s m below meth c A ls hx hb hr hml hown hts hlocks hA hE hK hP hD hS hl
  have hown : s.vm.findClass RL = some m.cls := hown
  have hl : lv_has ls 1 [(0, .int v)] := hl
  have eS : sL_thrown v = sL_thrown v := rfl
  refine lv_iload_n hx hb dL_thrown_0 rfl (lv_at hl 0 rfl) ?_
  refine lv_ldc (v := (-9999001)) hx hb hown (hts _ kc_L_15) dL_thrown_1 ?_
  refine lv_icmp_eq (tgt := 18) hx hb dL_thrown_3 (by decide) (fun c_3 => ?_) (fun c_3 => ?_)
  · have eS := eS.trans (if_pos c_3)
    refine lv_iconst (v := 1) hx hb dL_thrown_18 (by decide) ?_
    refine lv_goto (tgt := 23) hx hb dL_thrown_19 (by decide) ?_
    exact fin_z hx hb hr hlocks hK hP hD hS eS rfl dL_thrown_23
  · have eS := eS.trans (if_neg c_3)
    refine lv_iload_n hx hb dL_thrown_6 rfl (lv_at hl 0 rfl) ?_
    refine lv_ldc (v := (-9999002)) hx hb hown (hts _ kc_L_22) dL_thrown_7 ?_
    refine lv_icmp_eq (tgt := 18) hx hb dL_thrown_9 (by decide) (fun c_9 => ?_) (fun c_9 => ?_)
    · have eS := eS.trans (if_pos c_9)
      refine lv_iconst (v := 1) hx hb dL_thrown_18 (by decide) ?_
      refine lv_goto (tgt := 23) hx hb dL_thrown_19 (by decide) ?_
      exact fin_z hx hb hr hlocks hK hP hD hS eS rfl dL_thrown_23
    · have eS := eS.trans (if_neg c_9)
      refine lv_iload_n hx hb dL_thrown_12 rfl (lv_at hl 0 rfl) ?_
      refine lv_ldc (v := (-9999003)) hx hb hown (hts _ kc_L_33) dL_thrown_13 ?_
      refine lv_icmp_ne (tgt := 22) hx hb dL_thrown_15 (by decide) (fun c_15 => ?_) (fun c_15 => ?_)
      · have eS := eS.trans (if_neg c_15)
        refine lv_iconst (v := 0) hx hb dL_thrown_22 (by decide) ?_
        exact fin_z hx hb hr hlocks hK hP hD hS eS rfl dL_thrown_23
      · have eS := eS.trans (if_pos c_15)
        refine lv_iconst (v := 1) hx hb dL_thrown_18 (by decide) ?_
        refine lv_goto (tgt := 23) hx hb dL_thrown_19 (by decide) ?_
        exact fin_z hx hb hr hlocks hK hP hD hS eS rfl dL_thrown_23
/-- a number of the script, or one made up -/
def mC (sz sb L : Nat) (xs : Nat → Int32) : State → Prop := fun U => U.heap.size = sz ∧ va_X sb L xs U U.heap ∧ sb < sz
theorem blind_mC {as : List Value} {sz sb L : Nat} {xs : Nat → Int32} : FrameBlind (va_Pc as (mC sz sb L xs)) := fun a U g mk q => by
  obtain ⟨q0, q1, qX, q2⟩ := q
  exact ⟨q0, q1, va_X.moved (u := U) (U := U.calling g mk a) (Vm.Alike.refl U.vm) qX, q2⟩
def CCELL (l : Launch) (sb L : Nat) (xs : Nat → Int32) (k : Nat) : Prop := ∀ sz : Nat, Met l yL_cell (.code yL_cell cL_cell 2 (some .int) :: WG) (rmO 0 0) (va_Pc [.ref sb, .int (nI k)] (mC sz sb L xs)) (va_Qi (S := Unit) (fun x _ => 0 ≤ x.toInt) (fun _ _ => True) (fun q => sz ≤ q)) 0 0 (fun q => sz ≤ q)
theorem cl_in {k L : Nat} (hL : L ≤ 260) (hk : k < 1000) (h : ¬ Int32.ofNat L ≤ nI k) : vp_in (nI k) L := by
  have h1 : (nI k).toInt = (k : Int) := t_n (by omega)
  have h2 : (Int32.ofNat L).toInt = (L : Int) := t_n (k := L) (by omega)
  have e0 : (0 : Int32).toInt = 0 := rfl
  rw [le_i, h1, h2] at h
  rintro (q | q)
  · rw [lt_i, h1, e0] at q; omega
  · rw [nI_cl (by omega)] at q; omega
set_option maxRecDepth 100000 in
theorem c_cell (l : Launch) {sb L : Nat} {xs : Nat → Int32} (hL : L ≤ 260) {k : Nat} (hk : k < 1000) : CCELL l sb L xs k := by
  intro sz
  refine Met.ofW (cc := cL_cell) (maxL := 2) (ret := some .int) (by decide +kernel) rfl ?_
  intro p e s m args below meth c s₁ B hml hv
  obtain ⟨rfl, hsz, hX, hbl⟩ := hv
  have hts0 := atoms_spec (ws := .code yL_cell cL_cell 2 (some .int) :: WG) B.pre
  have hts : ∀ w ∈ WG, w.before ([.ref sb, .int (nI k)] : List Value).toArray s = true := fun w hw => hts0 w (List.mem_cons_of_mem _ hw)
  subst hsz
  have hx := B.exec
  have hb : c.code = cL_cell := B.bytes
  have hown : s.vm.findClass RL = some m.cls := findClass_of_methodNamed B.named
  rw [lg_entry_eq]
  suffices main : ∀ ls : Array Slot, lv_has ls 2 [(0, .ref sb), (1, .int (nI k))] → W p l e (rmO 0 0) s m ([.ref sb, .int (nI k)] : List Value).toArray below meth c s.heap [] 0 0 (MQ below (va_Qi (S := Unit) (fun x _ => 0 ≤ x.toInt) (fun _ _ => True) (fun q => s.heap.size ≤ q)) ([.ref sb, .int (nI k)] : List Value).toArray s 0 0 (fun q => s.heap.size ≤ q)) (F0 m 0 ls []) from main _ (lv_entry [.ref sb, .int (nI k)] (Nat.le_of_ble_eq_true rfl))
  intro ls hl
  have hbA : ¬ s.heap.size ≤ sb := by omega
  have hS : va_S (fun q => s.heap.size ≤ q) s.heap s.heap [] := va_S.rf
  have J : ∀ v : Int32, W p l e (rmO 0 0) s m ([.ref sb, .int (nI k)] : List Value).toArray below meth c s.heap [] 0 0 (MQ below (va_Qi (S := Unit) (fun x _ => 0 ≤ x.toInt) (fun _ _ => True) (fun q => s.heap.size ≤ q)) ([.ref sb, .int (nI k)] : List Value).toArray s 0 0 (fun q => s.heap.size ≤ q)) (F0 m 22 ls [.int v]) := by
    intro v
    refine lv_ldc (v := 2147483647) hx hb hown (hts _ kc_L_137) dL_cell_22 ?_
    refine lv_iand hx hb dL_cell_24 ?_
    exact W.iret hx hb B.returns (fun t ht hW => ⟨⟨_, (), rfl, and_31 v, trivial⟩, hS.F ht⟩) hS.2.2 dL_cell_25 B.notSynchronized
  refine lv_iload_n hx hb dL_cell_0 rfl (lv_at hl 1 rfl) ?_
  refine lv_aload_n hx hb dL_cell_1 rfl (lv_at hl 0 rfl) ?_
  refine va_slen hx hb hX hbl hbA hS dL_cell_2 ?_
  refine lv_icmp_ge (tgt := 12) hx hb dL_cell_3 (by decide) (fun h => ?_) (fun h => ?_)
  · refine lv_ldc (v := 15519071) hx hb hown (hts _ kc_L_136) dL_cell_12 ?_
    refine lv_iload_n hx hb dL_cell_14 rfl (lv_at hl 1 rfl) ?_
    refine lv_iconst (v := 3) hx hb dL_cell_15 (by decide) ?_
    refine lv_iadd hx hb dL_cell_16 ?_
    refine lv_imul hx hb dL_cell_17 ?_
    refine lv_sipush (v := 11257) hx hb dL_cell_18 (by decide) ?_
    refine lv_iadd hx hb dL_cell_21 ?_
    exact J _
  · refine lv_aload_n hx hb dL_cell_6 rfl (lv_at hl 0 rfl) ?_
    refine lv_iload_n hx hb dL_cell_7 rfl (lv_at hl 1 rfl) ?_
    refine va_sld hx hb hX hbl hbA hS (cl_in hL hk h) dL_cell_8 ?_
    refine lv_goto (tgt := 22) hx hb dL_cell_9 (by decide) ?_
    exact J _
