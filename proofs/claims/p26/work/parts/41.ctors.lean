/-- what a new object holds -/
def gz : Nat → Int32 := fun _ => 0
def uz : Nat → Int32
  | 0 => 600
  | 1 => 0
  | 2 => 10
  | 3 => 12
  | 4 => 30
  | _ => 6
def rz (i : Nat) : Nat → Int32
  | 0 => nI i
  | _ => 0
def adr9 (a0 a1 a2 a3 a4 a5 a6 a7 a8 : Nat) : Nat → Nat
  | 0 => a0
  | 1 => a1
  | 2 => a2
  | 3 => a3
  | 4 => a4
  | 5 => a5
  | 6 => a6
  | 7 => a7
  | _ => a8
theorem nwl_11 : Cond.methodLinkNest RX5 11 yX3_init "MeterRooms" ∈ NWL := nw_of 100 (by decide +kernel) rfl
theorem vD_arr {A : Nat → Prop} {ws ws' : va_W} (hD : va_D A ws) (h : ws'.map (fun q => q.1) = ws.map (fun q => q.1)) : va_D A ws' := by
  have key : ∀ (k : Nat) (q : Nat × va_E), ws'[k]? = some q → ∃ q0 : Nat × va_E, ws[k]? = some q0 ∧ q0.1 = q.1 := by
    intro k q hk
    have h1 : (ws'.map (fun q => q.1))[k]? = some q.1 := by rw [List.getElem?_map, hk]; rfl
    rw [h, List.getElem?_map] at h1
    cases hw : ws[k]? with
    | none => rw [hw] at h1; cases h1
    | some q0 => rw [hw] at h1; exact ⟨q0, rfl, Option.some.inj h1⟩
  refine ⟨fun i j x y hi hj hxy => ?_, fun k q hq => ?_⟩
  · obtain ⟨x0, h1, h2⟩ := key i x hi
    obtain ⟨y0, h3, h4⟩ := key j y hj
    exact hD.1 i j x0 y0 h1 h3 (h2.trans (hxy.trans h4.symm))
  · obtain ⟨q0, h1, h2⟩ := key k q hq
    rw [← h2]
    exact hD.2 k q0 h1
section CTORN
variable {p : Program} {l : Launch} {e : Env} {R : Room} {s : State} {m : MethodId} {args : Array Value} {below : List Frame} {meth : Method} {c : Code} {H : Heap} {locs : List Loc} {cells slots mc ms : Nat} {Q : State → Prop}
variable {cc : ByteArray} {pc nL : Nat} {ls : Array Slot} {rest st0 : List Value} {G : va_G} {kk : Nat → ClassId} {A : Nat → Prop} {ws w0 : va_W} {own : String} {index a n : Nat} {y : MethodName} {b : ByteArray} {rm : Room} {As : List Value} {x : va_E} {H0 : Heap} {B : (Nat → Prop) → State → Prop}
def ILN (own : String) (index : Nat) (y : MethodName) (b : ByteArray) (n np : Nat) (host : String) (s : State) : Prop := va_Nw (.methodLinkNest own index y host) s ∧ Cond.instanceMethod y ∈ WG ∧ Cond.initialized y.cls ∈ WG ∧ Cond.code y b n none ∈ WG ∧ y.name = "<init>" ∧ (y.cls ≠ "java/lang/invoke/MethodHandle" ∧ y.cls ≠ "java/lang/invoke/VarHandle" ∧ (parseMethodDescriptor y.desc).map (fun d => d.parameters.length) = some np)
theorem iln_X5_11 (h : NW s) : ILN RX5 11 yX3_init cX3_init 1 0 "MeterRooms" s := ⟨h _ nwl_11, wg_of 101 (by decide +kernel) rfl, wg_of 26 (by decide +kernel) rfl, wg_of 102 (by decide +kernel) rfl, rfl, by decide +kernel⟩
theorem k_ctorN {host : String} (hx : p.tables.exec = Jvm.exec) (hb : c.code = cc) (hml : c.maxLocals = nL) (hown : s.vm.findClass own = some m.cls) (hts : ∀ w ∈ WG, w.before args s = true) (hK : va_K G vwCl (TYS kk) s) (hP : va_P G vwCl (w0 ++ [(a, x)]) H) (hD : va_D A (w0 ++ [(a, x)])) (hS : va_S A s.heap H locs) (hA : ∀ q : Nat, s.heap.size ≤ q → A q) (hE : ENV A s) (hl : ls.size = nL)
    (hc : CI l y b n rm (.ref a :: As) G kk [(a, x)] mc ms B) (il : ILN own index y b n As.length host s) (hrm : rm.frames + 1 ≤ R.frames ∧ 8 + (n + 11) + rm.locals ≤ R.locals ∧ rm.cells = mc ∧ rm.slots = ms)
    (k : Nat) (hk : w0.length = k) (hcs : cells + mc ≤ R.cells ∧ slots + ms ≤ R.slots) (hst : st0 = As.reverse ++ .ref a :: rest) (hWr : (rest.map fun v => v.category).sum ≤ 8) (hdg : decode cc pc = .ok (.invokespecial index, 3))
    (kk1 : ∀ (H1 : Heap) (locs1 : List Loc) (t : State), t.heap = H1 → B (va_A [(a, x)] H.size) t → (∀ w1 : va_W, va_P G vwCl w1 H1 → va_D (va_A [(a, x)] H.size) w1 → va_P G vwCl (w0 ++ w1) H1 ∧ va_D A (w0 ++ w1)) → va_S A s.heap H1 locs1 → W p l e R s m args below meth c H1 locs1 (cells + mc) (slots + ms) Q (F0 m (pc + 3) ls rest)) : W p l e R s m args below meth c H locs cells slots Q (F0 m pc ls st0) := by
  subst hst
  obtain ⟨v1, v2, v4, v5, vn, v6, v7, v8⟩ := il
  have hC := last_C (a := a) (x := x) hk
  have hR : (List.range' 0 k).map (fun i => (w0 ++ [(a, x)])[i]?) = w0.map some := sg_C hk
  have hPc := sub_P hP [k] hC
  have hDc := hD.sub [k] rfl hC
  have hF := va_free hD hS hA [k] hC
  refine va_callv (va_runIN (Ts := WG) (ws := .code y b n none :: WG) (rm := rm) (bytes := b) (maxL := n) (n := As.length) (As := As) (rest := rest) (b := a) (host := host) ⟨hx, hb, hml, hown, hts⟩ (hc H.size) ?_ ⟨blind_mP, fun U hU hW => ⟨rfl, by rw [hU], by rw [hU]; exact hPc, va_K.moved hW.alike hK, hDc.weaken (fun _ _ _ _ => trivial), hE.go hS hF hU hW⟩⟩ rfl rfl hl rfl (lv_room hWr) hdg hcs) hS (fun q _ h => hF q h) hF (fun u t H1 locs1 ht hvm hw hB hz hk1 hS1 => ?_)
  · refine ⟨va_cnB (ws' := WG) As.length hts (wg_goodIn ?_) rfl hrm.2.2.1 hrm.2.2.2 v1 (hts _ v4) ⟨v6, v7, v8⟩ ⟨hrm.1, hrm.2.1⟩, vn, hts _ v2⟩
    intro w hw
    rcases List.mem_cons.mp hw with rfl | hw
    · exact v5
    · exact hw
  · refine kk1 H1 locs1 t ht hB (fun w1 hP1 hD1 => ?_) hS1
    refine va_join hP hD [k] (List.range' 0 k) hC hR (nd_range k 0) (fun i hi hi2 => ?_) hk1 hF hP1 hD1
    have h1 : i = k := by simpa using hi2
    have h2 := List.mem_range'_1.mp hi
    omega
end CTORN
set_option maxRecDepth 100000 in
set_option maxHeartbeats 4000000 in
theorem c_X2_init (l : Launch) (G : va_G) (kk : Nat → ClassId) (h : Nat) (x : Int32) : CI l yX2_init cX2_init 2 (rmI 1 14 0 0) [.ref h, .int x] G kk [(h, .inr (2, [.int 0, .int 0, .int 0, .int 0, .int 0, .int 0, .int 0, .int 0, .int 0, .int 0]))] 0 0 (fun A t => mB G kk ([(h, .inr (2, [.int x, .int 0, .int 0, .int 0, .int 0, .int 0, .int 0, .int 0, .int 0, .int 0]))]) A t) := by
  refine ci_start (by decide +kernel) (Nat.le_of_ble_eq_true rfl) rfl ?_
  intro p e s m below meth c A ls hx hb hr hml hown hts hlocks hA hE hK hP hD hS hl hin
  have hown : s.vm.findClass RX2 = some m.cls := hown
  have hl : lv_has ls 2 [(0, .ref h), (1, .int x)] := hl
  refine lv_aload_n hx hb dX2_init_0 rfl (lv_at hl 0 rfl) ?_
  refine r_obj hx hb hml hl.1 hown hts ol_X2_3 dX2_init_1 (Nat.le_of_ble_eq_true rfl) (Nat.le_of_ble_eq_true rfl) ?_
  refine lv_aload_n hx hb dX2_init_4 rfl (lv_at hl 0 rfl) ?_
  refine lv_iload_n hx hb dX2_init_5 rfl (lv_at hl 1 rfl) ?_
  refine r_putF (v := .int x) hx hb hts hown hK hP hD hS ff_X2_9 hin 0 rfl rfl rfl (Nat.le_of_ble_eq_true rfl) dX2_init_6 (fun H locs hP hD hS => ?_)
  replace hP : va_P G vwCl ([(h, .inr (2, [.int x, .int 0, .int 0, .int 0, .int 0, .int 0, .int 0, .int 0, .int 0, .int 0]))]) H := hP
  replace hD : va_D A ([(h, .inr (2, [.int x, .int 0, .int 0, .int 0, .int 0, .int 0, .int 0, .int 0, .int 0, .int 0]))]) := hD
  exact fin_c (B := fun A t => mB G kk ([(h, .inr (2, [.int x, .int 0, .int 0, .int 0, .int 0, .int 0, .int 0, .int 0, .int 0, .int 0]))]) A t) hx hb hr hlocks hS (fun t ht hal => ⟨by rw [ht]; exact hP, va_K.moved hal hK, hD⟩) dX2_init_9
set_option maxRecDepth 100000 in
set_option maxHeartbeats 4000000 in
theorem c_X3_init (l : Launch) (G : va_G) (kk : Nat → ClassId) (h : Nat)  : CI l yX3_init cX3_init 1 (rmI 1 14 0 0) [.ref h] G kk [(h, .inr (3, [.int 0, .int 0, .int 0, .int 0, .int 0, .int 0]))] 0 0 (fun A t => mB G kk ([(h, .inr (3, [.int 600, .int 0, .int 10, .int 12, .int 30, .int 6]))]) A t) := by
  refine ci_start (by decide +kernel) (Nat.le_of_ble_eq_true rfl) rfl ?_
  intro p e s m below meth c A ls hx hb hr hml hown hts hlocks hA hE hK hP hD hS hl hin
  have hown : s.vm.findClass RX3 = some m.cls := hown
  have hl : lv_has ls 1 [(0, .ref h)] := hl
  refine lv_aload_n hx hb dX3_init_0 rfl (lv_at hl 0 rfl) ?_
  refine r_obj hx hb hml hl.1 hown hts ol_X3_1 dX3_init_1 (Nat.le_of_ble_eq_true rfl) (Nat.le_of_ble_eq_true rfl) ?_
  refine lv_aload_n hx hb dX3_init_4 rfl (lv_at hl 0 rfl) ?_
  refine lv_sipush (v := 600) hx hb dX3_init_5 (by decide) ?_
  refine r_put (v := .int 600) hx hb hts hown hK hP hD hS fl_X3_7 fw_3_0 0 rfl rfl rfl (Nat.le_of_ble_eq_true rfl) dX3_init_8 (fun H locs hP hD hS => ?_)
  replace hP : va_P G vwCl ([(h, .inr (3, [.int 600, .int 0, .int 0, .int 0, .int 0, .int 0]))]) H := hP
  replace hD : va_D A ([(h, .inr (3, [.int 600, .int 0, .int 0, .int 0, .int 0, .int 0]))]) := hD
  refine lv_aload_n hx hb dX3_init_11 rfl (lv_at hl 0 rfl) ?_
  refine lv_iconst (v := 0) hx hb dX3_init_12 (by decide) ?_
  refine r_put (v := .int 0) hx hb hts hown hK hP hD hS fl_X3_13 fw_3_1 0 rfl rfl rfl (Nat.le_of_ble_eq_true rfl) dX3_init_13 (fun H locs hP hD hS => ?_)
  replace hP : va_P G vwCl ([(h, .inr (3, [.int 600, .int 0, .int 0, .int 0, .int 0, .int 0]))]) H := hP
  replace hD : va_D A ([(h, .inr (3, [.int 600, .int 0, .int 0, .int 0, .int 0, .int 0]))]) := hD
  refine lv_aload_n hx hb dX3_init_16 rfl (lv_at hl 0 rfl) ?_
  refine lv_bipush (v := 10) hx hb dX3_init_17 (by decide) ?_
  refine r_put (v := .int 10) hx hb hts hown hK hP hD hS fl_X3_16 fw_3_2 0 rfl rfl rfl (Nat.le_of_ble_eq_true rfl) dX3_init_19 (fun H locs hP hD hS => ?_)
  replace hP : va_P G vwCl ([(h, .inr (3, [.int 600, .int 0, .int 10, .int 0, .int 0, .int 0]))]) H := hP
  replace hD : va_D A ([(h, .inr (3, [.int 600, .int 0, .int 10, .int 0, .int 0, .int 0]))]) := hD
  refine lv_aload_n hx hb dX3_init_22 rfl (lv_at hl 0 rfl) ?_
  refine lv_bipush (v := 12) hx hb dX3_init_23 (by decide) ?_
  refine r_put (v := .int 12) hx hb hts hown hK hP hD hS fl_X3_19 fw_3_3 0 rfl rfl rfl (Nat.le_of_ble_eq_true rfl) dX3_init_25 (fun H locs hP hD hS => ?_)
  replace hP : va_P G vwCl ([(h, .inr (3, [.int 600, .int 0, .int 10, .int 12, .int 0, .int 0]))]) H := hP
  replace hD : va_D A ([(h, .inr (3, [.int 600, .int 0, .int 10, .int 12, .int 0, .int 0]))]) := hD
  refine lv_aload_n hx hb dX3_init_28 rfl (lv_at hl 0 rfl) ?_
  refine lv_bipush (v := 30) hx hb dX3_init_29 (by decide) ?_
  refine r_put (v := .int 30) hx hb hts hown hK hP hD hS fl_X3_22 fw_3_4 0 rfl rfl rfl (Nat.le_of_ble_eq_true rfl) dX3_init_31 (fun H locs hP hD hS => ?_)
  replace hP : va_P G vwCl ([(h, .inr (3, [.int 600, .int 0, .int 10, .int 12, .int 30, .int 0]))]) H := hP
  replace hD : va_D A ([(h, .inr (3, [.int 600, .int 0, .int 10, .int 12, .int 30, .int 0]))]) := hD
  refine lv_aload_n hx hb dX3_init_34 rfl (lv_at hl 0 rfl) ?_
  refine lv_bipush (v := 6) hx hb dX3_init_35 (by decide) ?_
  refine r_put (v := .int 6) hx hb hts hown hK hP hD hS fl_X3_25 fw_3_5 0 rfl rfl rfl (Nat.le_of_ble_eq_true rfl) dX3_init_37 (fun H locs hP hD hS => ?_)
  replace hP : va_P G vwCl ([(h, .inr (3, [.int 600, .int 0, .int 10, .int 12, .int 30, .int 6]))]) H := hP
  replace hD : va_D A ([(h, .inr (3, [.int 600, .int 0, .int 10, .int 12, .int 30, .int 6]))]) := hD
  exact fin_c (B := fun A t => mB G kk ([(h, .inr (3, [.int 600, .int 0, .int 10, .int 12, .int 30, .int 6]))]) A t) hx hb hr hlocks hS (fun t ht hal => ⟨by rw [ht]; exact hP, va_K.moved hal hK, hD⟩) dX3_init_40
set_option maxRecDepth 100000 in
set_option maxHeartbeats 4000000 in
theorem c_X6_init (l : Launch) (G : va_G) (kk : Nat → ClassId) (h : Nat)  : CI l yX6_init cX6_init 1 (rmI 1 14 1 120) [.ref h] G kk [(h, .inr (6, [.null, .int 0]))] 1 120 (fun A t => ∃ sa : Nat, mB G kk ([(h, .inr (6, txF sa gz)), (sa, .inl (kk 1, 120, .inl gz))]) A t) := by
  refine ci_start (by decide +kernel) (Nat.le_of_ble_eq_true rfl) rfl ?_
  intro p e s m below meth c A ls hx hb hr hml hown hts hlocks hA hE hK hP hD hS hl hin
  have hown : s.vm.findClass RX6 = some m.cls := hown
  have hl : lv_has ls 1 [(0, .ref h)] := hl
  refine lv_aload_n hx hb dX6_init_0 rfl (lv_at hl 0 rfl) ?_
  refine r_obj hx hb hml hl.1 hown hts ol_X6_3 dX6_init_1 (Nat.le_of_ble_eq_true rfl) (Nat.le_of_ble_eq_true rfl) ?_
  refine lv_aload_n hx hb dX6_init_4 rfl (lv_at hl 0 rfl) ?_
  refine lv_bipush (v := 120) hx hb dX6_init_5 (by decide) ?_
  refine r_newa (ty := .char) (t := 1) (a0 := (120, .inl (fun _ => 0))) (N' := 120) hx hb hts ac_char rfl hK hP hD hS hA rfl (fun _ => rfl) (by decide) (by decide) (by decide) (Nat.le_of_ble_eq_true rfl) (Nat.le_of_ble_eq_true rfl) dX6_init_7 (fun q1 H hP hD hS => ?_)
  refine W.widen (k := 1) (n := 120) (Nat.le_refl _) (Nat.le_refl _) ?_
  refine r_putF (v := .ref q1) hx hb hts hown hK hP hD hS ff_X6_9 hin 0 rfl rfl rfl (Nat.le_of_ble_eq_true rfl) dX6_init_9 (fun H locs hP hD hS => ?_)
  replace hP : va_P G vwCl ([(h, .inr (6, [.ref q1, .int 0])), (q1, .inl (kk 1, 120, .inl (fun _ => 0)))]) H := hP
  replace hD : va_D A ([(h, .inr (6, [.ref q1, .int 0])), (q1, .inl (kk 1, 120, .inl (fun _ => 0)))]) := hD
  exact fin_c (B := fun A t => ∃ sa : Nat, mB G kk ([(h, .inr (6, txF sa gz)), (sa, .inl (kk 1, 120, .inl gz))]) A t) hx hb hr hlocks hS (fun t ht hal => ⟨q1, by rw [ht]; exact hP, va_K.moved hal hK, hD⟩) dX6_init_12
set_option maxRecDepth 100000 in
set_option maxHeartbeats 4000000 in
theorem c_X1_init (l : Launch) (G : va_G) (kk : Nat → ClassId) (h : Nat)  : CI l yX1_init cX1_init 1 (rmI 2 40 2 122) [.ref h] G kk [(h, .inr (1, [.null, .int 0, .int 0, .int 0, .int 0, .int 0, .int 0]))] 2 122 (fun A t => ∃ tx sa : Nat, mB G kk ([(h, .inr (1, rdF tx gz)), (tx, .inr (6, txF sa gz)), (sa, .inl (kk 1, 120, .inl gz))]) A t) := by
  refine ci_start (by decide +kernel) (Nat.le_of_ble_eq_true rfl) rfl ?_
  intro p e s m below meth c A ls hx hb hr hml hown hts hlocks hA hE hK hP hD hS hl hin
  have hown : s.vm.findClass RX1 = some m.cls := hown
  have hl : lv_has ls 1 [(0, .ref h)] := hl
  refine lv_aload_n hx hb dX1_init_0 rfl (lv_at hl 0 rfl) ?_
  refine r_obj hx hb hml hl.1 hown hts ol_X1_3 dX1_init_1 (Nat.le_of_ble_eq_true rfl) (Nat.le_of_ble_eq_true rfl) ?_
  refine lv_aload_n hx hb dX1_init_4 rfl (lv_at hl 0 rfl) ?_
  refine r_new (ci := 6) (fs := [.null, .int 0]) hx hb hts in_X6 tyX6_ok hown nl_X1_9 hK hP hD hS hA rfl (fun j hj => by rcases (show j = 0 ∨ j = 1 by omega) with rfl | rfl <;> rfl) (Nat.le_of_ble_eq_true rfl) (Nat.le_of_ble_eq_true rfl) dX1_init_5 (fun q1 H hP hD hS => ?_)
  refine W.widen (k := 1) (n := 2) (Nat.le_refl _) (Nat.le_refl _) ?_
  refine lv_dup hx hb dX1_init_8 rfl ?_
  refine k_ctor (rest := [.ref q1, .ref h]) (As := []) hx hb hml hown hts hK hP hD hS hA hE hl.1 (c_X6_init l G kk q1) il_X1_11 ⟨Nat.le_of_ble_eq_true rfl, Nat.le_of_ble_eq_true rfl, rfl, rfl⟩ 1 rfl ⟨Nat.le_of_ble_eq_true rfl, Nat.le_of_ble_eq_true rfl⟩ rfl (Nat.le_of_ble_eq_true rfl) dX1_init_9 (fun H locs t ht hB hj hS => ?_)
  obtain ⟨sa2, hP1, hK1, hD1⟩ := hB
  rw [ht] at hP1
  obtain ⟨hP, hD⟩ := hj _ hP1 hD1
  replace hP : va_P G vwCl ([(h, .inr (1, [.null, .int 0, .int 0, .int 0, .int 0, .int 0, .int 0])), (q1, .inr (6, txF sa2 gz)), (sa2, .inl (kk 1, 120, .inl gz))]) H := hP
  replace hD : va_D A ([(h, .inr (1, [.null, .int 0, .int 0, .int 0, .int 0, .int 0, .int 0])), (q1, .inr (6, txF sa2 gz)), (sa2, .inl (kk 1, 120, .inl gz))]) := hD
  refine W.widen (k := 2) (n := 122) (Nat.le_refl _) (Nat.le_refl _) ?_
  refine r_putF (v := .ref q1) hx hb hts hown hK hP hD hS ff_X1_12 hin 0 rfl rfl rfl (Nat.le_of_ble_eq_true rfl) dX1_init_12 (fun H locs hP hD hS => ?_)
  replace hP : va_P G vwCl ([(h, .inr (1, [.ref q1, .int 0, .int 0, .int 0, .int 0, .int 0, .int 0])), (q1, .inr (6, txF sa2 gz)), (sa2, .inl (kk 1, 120, .inl gz))]) H := hP
  replace hD : va_D A ([(h, .inr (1, [.ref q1, .int 0, .int 0, .int 0, .int 0, .int 0, .int 0])), (q1, .inr (6, txF sa2 gz)), (sa2, .inl (kk 1, 120, .inl gz))]) := hD
  exact fin_c (B := fun A t => ∃ tx sa : Nat, mB G kk ([(h, .inr (1, rdF tx gz)), (tx, .inr (6, txF sa gz)), (sa, .inl (kk 1, 120, .inl gz))]) A t) hx hb hr hlocks hS (fun t ht hal => ⟨q1, sa2, by rw [ht]; exact hP, va_K.moved hal hK, hD⟩) dX1_init_15
set_option maxRecDepth 100000 in
set_option maxHeartbeats 4000000 in
theorem c_X5_init (l : Launch) (G : va_G) (kk : Nat → ClassId) (h : Nat)  : CI l yX5_init cX5_init 2 (rmI 2 40 8 72) [.ref h] G kk [(h, .inr (5, [.null, .null, .int 0, .int 0, .int 0, .int 0, .int 0, .int 0, .int 0, .int 0, .int 0]))] 8 72 (fun A t => ∃ a : Nat → Nat, a 0 = h ∧ mB G kk (stW kk a gz uz rz) A t) := by
  refine ci_start (by decide +kernel) (Nat.le_of_ble_eq_true rfl) rfl ?_
  intro p e s m below meth c A ls hx hb hr hml hown hts hlocks hA hE hK hP hD hS hl hin
  have hown : s.vm.findClass RX5 = some m.cls := hown
  have hl : lv_has ls 2 [(0, .ref h)] := hl
  refine lv_aload_n hx hb dX5_init_0 rfl (lv_at hl 0 rfl) ?_
  refine r_obj hx hb hml hl.1 hown hts ol_X5_3 dX5_init_1 (Nat.le_of_ble_eq_true rfl) (Nat.le_of_ble_eq_true rfl) ?_
  refine lv_aload_n hx hb dX5_init_4 rfl (lv_at hl 0 rfl) ?_
  refine r_new (ci := 3) (fs := [.int 0, .int 0, .int 0, .int 0, .int 0, .int 0]) hx hb hts in_X3 tyX3_ok hown nl_X5_9 hK hP hD hS hA rfl (fun j hj => by rcases (show j = 0 ∨ j = 1 ∨ j = 2 ∨ j = 3 ∨ j = 4 ∨ j = 5 by omega) with rfl | rfl | rfl | rfl | rfl | rfl <;> rfl) (Nat.le_of_ble_eq_true rfl) (Nat.le_of_ble_eq_true rfl) dX5_init_5 (fun q1 H hP hD hS => ?_)
  refine W.widen (k := 1) (n := 6) (Nat.le_refl _) (Nat.le_refl _) ?_
  refine lv_dup hx hb dX5_init_8 rfl ?_
  refine k_ctorN (rest := [.ref q1, .ref h]) (As := []) hx hb hml hown hts hK hP hD hS hA hE hl.1 (c_X3_init l G kk q1) (iln_X5_11 hE.1) ⟨Nat.le_of_ble_eq_true rfl, Nat.le_of_ble_eq_true rfl, rfl, rfl⟩ 1 rfl ⟨Nat.le_of_ble_eq_true rfl, Nat.le_of_ble_eq_true rfl⟩ rfl (Nat.le_of_ble_eq_true rfl) dX5_init_9 (fun H locs t ht hB hj hS => ?_)
  obtain ⟨hP1, hK1, hD1⟩ := hB
  rw [ht] at hP1
  obtain ⟨hP, hD⟩ := hj _ hP1 hD1
  replace hP : va_P G vwCl ([(h, .inr (5, [.null, .null, .int 0, .int 0, .int 0, .int 0, .int 0, .int 0, .int 0, .int 0, .int 0])), (q1, .inr (3, seF uz))]) H := hP
  replace hD : va_D A ([(h, .inr (5, [.null, .null, .int 0, .int 0, .int 0, .int 0, .int 0, .int 0, .int 0, .int 0, .int 0])), (q1, .inr (3, seF uz))]) := hD
  refine W.widen (k := 1) (n := 6) (Nat.le_refl _) (Nat.le_refl _) ?_
  refine r_putF (v := .ref q1) hx hb hts hown hK hP hD hS ff_X5_12 hin 0 rfl rfl rfl (Nat.le_of_ble_eq_true rfl) dX5_init_12 (fun H locs hP hD hS => ?_)
  replace hP : va_P G vwCl ([(h, .inr (5, [.ref q1, .null, .int 0, .int 0, .int 0, .int 0, .int 0, .int 0, .int 0, .int 0, .int 0])), (q1, .inr (3, seF uz))]) H := hP
  replace hD : va_D A ([(h, .inr (5, [.ref q1, .null, .int 0, .int 0, .int 0, .int 0, .int 0, .int 0, .int 0, .int 0, .int 0])), (q1, .inr (3, seF uz))]) := hD
  refine lv_aload_n hx hb dX5_init_15 rfl (lv_at hl 0 rfl) ?_
  refine lv_bipush (v := 6) hx hb dX5_init_16 (by decide) ?_
  refine r_newq (C := "MeterRooms$Room") (t := 3) (N' := 6) hx hb hts hown (wg_of 129 (by decide +kernel) rfl) hE.2.2.2.1 hK hP hD hS hA rfl (by decide) (by decide) (by decide) (Nat.le_of_ble_eq_true rfl) (Nat.le_of_ble_eq_true rfl) dX5_init_18 (fun q3 H hP hD hS => ?_)
  refine W.widen (k := 2) (n := 12) (Nat.le_refl _) (Nat.le_refl _) ?_
  refine r_putF (v := .ref q3) hx hb hts hown hK hP hD hS ff_X5_20 hin 0 rfl rfl rfl (Nat.le_of_ble_eq_true rfl) dX5_init_21 (fun H locs hP hD hS => ?_)
  replace hP : va_P G vwCl ([(h, .inr (5, [.ref q1, .ref q3, .int 0, .int 0, .int 0, .int 0, .int 0, .int 0, .int 0, .int 0, .int 0])), (q1, .inr (3, seF uz)), (q3, .inl (kk 3, 6, .inr (.inr (.inr (.inr (fun _ => none))))))]) H := hP
  replace hD : va_D A ([(h, .inr (5, [.ref q1, .ref q3, .int 0, .int 0, .int 0, .int 0, .int 0, .int 0, .int 0, .int 0, .int 0])), (q1, .inr (3, seF uz)), (q3, .inl (kk 3, 6, .inr (.inr (.inr (.inr (fun _ => none))))))]) := hD
  refine lv_iconst (v := 0) hx hb dX5_init_24 (by decide) ?_
  refine lv_istore_n (lv' := [(1, .int 0), (0, .ref h)]) hx hb dX5_init_25 rfl hl (by decide) rfl (fun ls hl => ?_)
  refine lv_iload_n hx hb dX5_init_26 rfl (lv_at hl 0 rfl) ?_
  refine lv_aload_n hx hb dX5_init_27 rfl (lv_at hl 1 rfl) ?_
  refine r_get (v := .ref q3) hx hb hts hown hK hP fl_X5_20 0 rfl rfl dX5_init_28 ?_
  refine r_alen (t0 := 3) hx hb hK hP 2 rfl rfl dX5_init_31 ?_
  refine lv_icmp_ge (tgt := 55) hx hb dX5_init_32 (by decide) (fun c_32_0 => absurd c_32_0 (by decide)) (fun c_32_0 => ?_)
  refine lv_aload_n hx hb dX5_init_35 rfl (lv_at hl 1 rfl) ?_
  refine r_get (v := .ref q3) hx hb hts hown hK hP fl_X5_20 0 rfl rfl dX5_init_36 ?_
  refine lv_iload_n hx hb dX5_init_39 rfl (lv_at hl 0 rfl) ?_
  refine r_new (ci := 2) (fs := [.int 0, .int 0, .int 0, .int 0, .int 0, .int 0, .int 0, .int 0, .int 0, .int 0]) hx hb hts in_X2 tyX2_ok hown nl_X5_18 hK hP hD hS hA rfl (fun j hj => by rcases (show j = 0 ∨ j = 1 ∨ j = 2 ∨ j = 3 ∨ j = 4 ∨ j = 5 ∨ j = 6 ∨ j = 7 ∨ j = 8 ∨ j = 9 by omega) with rfl | rfl | rfl | rfl | rfl | rfl | rfl | rfl | rfl | rfl <;> rfl) (Nat.le_of_ble_eq_true rfl) (Nat.le_of_ble_eq_true rfl) dX5_init_40 (fun q4 H hP hD hS => ?_)
  refine W.widen (k := 3) (n := 22) (Nat.le_refl _) (Nat.le_refl _) ?_
  refine lv_dup hx hb dX5_init_43 rfl ?_
  refine lv_iload_n hx hb dX5_init_44 rfl (lv_at hl 0 rfl) ?_
  refine k_ctor (rest := [.ref q4, .int 0, .ref q3]) (As := [.int 0]) hx hb hml hown hts hK hP hD hS hA hE hl.1 (c_X2_init l G kk q4 0) il_X5_24 ⟨Nat.le_of_ble_eq_true rfl, Nat.le_of_ble_eq_true rfl, rfl, rfl⟩ 3 rfl ⟨Nat.le_of_ble_eq_true rfl, Nat.le_of_ble_eq_true rfl⟩ rfl (Nat.le_of_ble_eq_true rfl) dX5_init_45 (fun H locs t ht hB hj hS => ?_)
  obtain ⟨hP1, hK1, hD1⟩ := hB
  rw [ht] at hP1
  obtain ⟨hP, hD⟩ := hj _ hP1 hD1
  replace hP : va_P G vwCl ([(h, .inr (5, [.ref q1, .ref q3, .int 0, .int 0, .int 0, .int 0, .int 0, .int 0, .int 0, .int 0, .int 0])), (q1, .inr (3, seF uz)), (q3, .inl (kk 3, 6, .inr (.inr (.inr (.inr (fun _ => none)))))), (q4, .inr (2, rmF (rz 0)))]) H := hP
  replace hD : va_D A ([(h, .inr (5, [.ref q1, .ref q3, .int 0, .int 0, .int 0, .int 0, .int 0, .int 0, .int 0, .int 0, .int 0])), (q1, .inr (3, seF uz)), (q3, .inl (kk 3, 6, .inr (.inr (.inr (.inr (fun _ => none)))))), (q4, .inr (2, rmF (rz 0)))]) := hD
  refine W.widen (k := 3) (n := 22) (Nat.le_refl _) (Nat.le_refl _) ?_
  refine va_astq hx hb hK hP hD hS 2 3 3 2 rfl rfl rfl rfl (ix_in (k := 0) rfl (by decide) (by decide)) dX5_init_48 (fun H locs hP hD hS => ?_)
  replace hP : va_P G vwCl ([(h, .inr (5, [.ref q1, .ref q3, .int 0, .int 0, .int 0, .int 0, .int 0, .int 0, .int 0, .int 0, .int 0])), (q1, .inr (3, seF uz)), (q3, .inl (kk 3, 6, .inr (.inr (.inr (.inr (va_up (fun _ => none) (0 : Int32).toNatClampNeg (some q4))))))), (q4, .inr (2, rmF (rz 0)))]) H := hP
  replace hD : va_D A ([(h, .inr (5, [.ref q1, .ref q3, .int 0, .int 0, .int 0, .int 0, .int 0, .int 0, .int 0, .int 0, .int 0])), (q1, .inr (3, seF uz)), (q3, .inl (kk 3, 6, .inr (.inr (.inr (.inr (va_up (fun _ => none) (0 : Int32).toNatClampNeg (some q4))))))), (q4, .inr (2, rmF (rz 0)))]) := hD
  refine lv_iinc (v := 1) (lv' := [(1, .int 1), (0, .ref h)]) hx hb dX5_init_49 hl (k := 0) rfl (by decide) (by decide) rfl (fun ls hl => ?_)
  refine lv_goto (tgt := 26) hx hb dX5_init_52 (by decide) ?_
  refine lv_iload_n hx hb dX5_init_26 rfl (lv_at hl 0 rfl) ?_
  refine lv_aload_n hx hb dX5_init_27 rfl (lv_at hl 1 rfl) ?_
  refine r_get (v := .ref q3) hx hb hts hown hK hP fl_X5_20 0 rfl rfl dX5_init_28 ?_
  refine r_alen (t0 := 3) hx hb hK hP 2 rfl rfl dX5_init_31 ?_
  refine lv_icmp_ge (tgt := 55) hx hb dX5_init_32 (by decide) (fun c_32_1 => absurd c_32_1 (by decide)) (fun c_32_1 => ?_)
  refine lv_aload_n hx hb dX5_init_35 rfl (lv_at hl 1 rfl) ?_
  refine r_get (v := .ref q3) hx hb hts hown hK hP fl_X5_20 0 rfl rfl dX5_init_36 ?_
  refine lv_iload_n hx hb dX5_init_39 rfl (lv_at hl 0 rfl) ?_
  refine r_new (ci := 2) (fs := [.int 0, .int 0, .int 0, .int 0, .int 0, .int 0, .int 0, .int 0, .int 0, .int 0]) hx hb hts in_X2 tyX2_ok hown nl_X5_18 hK hP hD hS hA rfl (fun j hj => by rcases (show j = 0 ∨ j = 1 ∨ j = 2 ∨ j = 3 ∨ j = 4 ∨ j = 5 ∨ j = 6 ∨ j = 7 ∨ j = 8 ∨ j = 9 by omega) with rfl | rfl | rfl | rfl | rfl | rfl | rfl | rfl | rfl | rfl <;> rfl) (Nat.le_of_ble_eq_true rfl) (Nat.le_of_ble_eq_true rfl) dX5_init_40 (fun q6 H hP hD hS => ?_)
  refine W.widen (k := 4) (n := 32) (Nat.le_refl _) (Nat.le_refl _) ?_
  refine lv_dup hx hb dX5_init_43 rfl ?_
  refine lv_iload_n hx hb dX5_init_44 rfl (lv_at hl 0 rfl) ?_
  refine k_ctor (rest := [.ref q6, .int 1, .ref q3]) (As := [.int 1]) hx hb hml hown hts hK hP hD hS hA hE hl.1 (c_X2_init l G kk q6 1) il_X5_24 ⟨Nat.le_of_ble_eq_true rfl, Nat.le_of_ble_eq_true rfl, rfl, rfl⟩ 4 rfl ⟨Nat.le_of_ble_eq_true rfl, Nat.le_of_ble_eq_true rfl⟩ rfl (Nat.le_of_ble_eq_true rfl) dX5_init_45 (fun H locs t ht hB hj hS => ?_)
  obtain ⟨hP1, hK1, hD1⟩ := hB
  rw [ht] at hP1
  obtain ⟨hP, hD⟩ := hj _ hP1 hD1
  replace hP : va_P G vwCl ([(h, .inr (5, [.ref q1, .ref q3, .int 0, .int 0, .int 0, .int 0, .int 0, .int 0, .int 0, .int 0, .int 0])), (q1, .inr (3, seF uz)), (q3, .inl (kk 3, 6, .inr (.inr (.inr (.inr (va_up (fun _ => none) (0 : Int32).toNatClampNeg (some q4))))))), (q4, .inr (2, rmF (rz 0))), (q6, .inr (2, rmF (rz 1)))]) H := hP
  replace hD : va_D A ([(h, .inr (5, [.ref q1, .ref q3, .int 0, .int 0, .int 0, .int 0, .int 0, .int 0, .int 0, .int 0, .int 0])), (q1, .inr (3, seF uz)), (q3, .inl (kk 3, 6, .inr (.inr (.inr (.inr (va_up (fun _ => none) (0 : Int32).toNatClampNeg (some q4))))))), (q4, .inr (2, rmF (rz 0))), (q6, .inr (2, rmF (rz 1)))]) := hD
  refine W.widen (k := 4) (n := 32) (Nat.le_refl _) (Nat.le_refl _) ?_
  refine va_astq hx hb hK hP hD hS 2 3 4 2 rfl rfl rfl rfl (ix_in (k := 1) rfl (by decide) (by decide)) dX5_init_48 (fun H locs hP hD hS => ?_)
  replace hP : va_P G vwCl ([(h, .inr (5, [.ref q1, .ref q3, .int 0, .int 0, .int 0, .int 0, .int 0, .int 0, .int 0, .int 0, .int 0])), (q1, .inr (3, seF uz)), (q3, .inl (kk 3, 6, .inr (.inr (.inr (.inr (va_up (va_up (fun _ => none) (0 : Int32).toNatClampNeg (some q4)) (1 : Int32).toNatClampNeg (some q6))))))), (q4, .inr (2, rmF (rz 0))), (q6, .inr (2, rmF (rz 1)))]) H := hP
  replace hD : va_D A ([(h, .inr (5, [.ref q1, .ref q3, .int 0, .int 0, .int 0, .int 0, .int 0, .int 0, .int 0, .int 0, .int 0])), (q1, .inr (3, seF uz)), (q3, .inl (kk 3, 6, .inr (.inr (.inr (.inr (va_up (va_up (fun _ => none) (0 : Int32).toNatClampNeg (some q4)) (1 : Int32).toNatClampNeg (some q6))))))), (q4, .inr (2, rmF (rz 0))), (q6, .inr (2, rmF (rz 1)))]) := hD
  refine lv_iinc (v := 2) (lv' := [(1, .int 2), (0, .ref h)]) hx hb dX5_init_49 hl (k := 0) rfl (by decide) (by decide) rfl (fun ls hl => ?_)
  refine lv_goto (tgt := 26) hx hb dX5_init_52 (by decide) ?_
  refine lv_iload_n hx hb dX5_init_26 rfl (lv_at hl 0 rfl) ?_
  refine lv_aload_n hx hb dX5_init_27 rfl (lv_at hl 1 rfl) ?_
  refine r_get (v := .ref q3) hx hb hts hown hK hP fl_X5_20 0 rfl rfl dX5_init_28 ?_
  refine r_alen (t0 := 3) hx hb hK hP 2 rfl rfl dX5_init_31 ?_
  refine lv_icmp_ge (tgt := 55) hx hb dX5_init_32 (by decide) (fun c_32_2 => absurd c_32_2 (by decide)) (fun c_32_2 => ?_)
  refine lv_aload_n hx hb dX5_init_35 rfl (lv_at hl 1 rfl) ?_
  refine r_get (v := .ref q3) hx hb hts hown hK hP fl_X5_20 0 rfl rfl dX5_init_36 ?_
  refine lv_iload_n hx hb dX5_init_39 rfl (lv_at hl 0 rfl) ?_
  refine r_new (ci := 2) (fs := [.int 0, .int 0, .int 0, .int 0, .int 0, .int 0, .int 0, .int 0, .int 0, .int 0]) hx hb hts in_X2 tyX2_ok hown nl_X5_18 hK hP hD hS hA rfl (fun j hj => by rcases (show j = 0 ∨ j = 1 ∨ j = 2 ∨ j = 3 ∨ j = 4 ∨ j = 5 ∨ j = 6 ∨ j = 7 ∨ j = 8 ∨ j = 9 by omega) with rfl | rfl | rfl | rfl | rfl | rfl | rfl | rfl | rfl | rfl <;> rfl) (Nat.le_of_ble_eq_true rfl) (Nat.le_of_ble_eq_true rfl) dX5_init_40 (fun q8 H hP hD hS => ?_)
  refine W.widen (k := 5) (n := 42) (Nat.le_refl _) (Nat.le_refl _) ?_
  refine lv_dup hx hb dX5_init_43 rfl ?_
  refine lv_iload_n hx hb dX5_init_44 rfl (lv_at hl 0 rfl) ?_
  refine k_ctor (rest := [.ref q8, .int 2, .ref q3]) (As := [.int 2]) hx hb hml hown hts hK hP hD hS hA hE hl.1 (c_X2_init l G kk q8 2) il_X5_24 ⟨Nat.le_of_ble_eq_true rfl, Nat.le_of_ble_eq_true rfl, rfl, rfl⟩ 5 rfl ⟨Nat.le_of_ble_eq_true rfl, Nat.le_of_ble_eq_true rfl⟩ rfl (Nat.le_of_ble_eq_true rfl) dX5_init_45 (fun H locs t ht hB hj hS => ?_)
  obtain ⟨hP1, hK1, hD1⟩ := hB
  rw [ht] at hP1
  obtain ⟨hP, hD⟩ := hj _ hP1 hD1
  replace hP : va_P G vwCl ([(h, .inr (5, [.ref q1, .ref q3, .int 0, .int 0, .int 0, .int 0, .int 0, .int 0, .int 0, .int 0, .int 0])), (q1, .inr (3, seF uz)), (q3, .inl (kk 3, 6, .inr (.inr (.inr (.inr (va_up (va_up (fun _ => none) (0 : Int32).toNatClampNeg (some q4)) (1 : Int32).toNatClampNeg (some q6))))))), (q4, .inr (2, rmF (rz 0))), (q6, .inr (2, rmF (rz 1))), (q8, .inr (2, rmF (rz 2)))]) H := hP
  replace hD : va_D A ([(h, .inr (5, [.ref q1, .ref q3, .int 0, .int 0, .int 0, .int 0, .int 0, .int 0, .int 0, .int 0, .int 0])), (q1, .inr (3, seF uz)), (q3, .inl (kk 3, 6, .inr (.inr (.inr (.inr (va_up (va_up (fun _ => none) (0 : Int32).toNatClampNeg (some q4)) (1 : Int32).toNatClampNeg (some q6))))))), (q4, .inr (2, rmF (rz 0))), (q6, .inr (2, rmF (rz 1))), (q8, .inr (2, rmF (rz 2)))]) := hD
  refine W.widen (k := 5) (n := 42) (Nat.le_refl _) (Nat.le_refl _) ?_
  refine va_astq hx hb hK hP hD hS 2 3 5 2 rfl rfl rfl rfl (ix_in (k := 2) rfl (by decide) (by decide)) dX5_init_48 (fun H locs hP hD hS => ?_)
  replace hP : va_P G vwCl ([(h, .inr (5, [.ref q1, .ref q3, .int 0, .int 0, .int 0, .int 0, .int 0, .int 0, .int 0, .int 0, .int 0])), (q1, .inr (3, seF uz)), (q3, .inl (kk 3, 6, .inr (.inr (.inr (.inr (va_up (va_up (va_up (fun _ => none) (0 : Int32).toNatClampNeg (some q4)) (1 : Int32).toNatClampNeg (some q6)) (2 : Int32).toNatClampNeg (some q8))))))), (q4, .inr (2, rmF (rz 0))), (q6, .inr (2, rmF (rz 1))), (q8, .inr (2, rmF (rz 2)))]) H := hP
  replace hD : va_D A ([(h, .inr (5, [.ref q1, .ref q3, .int 0, .int 0, .int 0, .int 0, .int 0, .int 0, .int 0, .int 0, .int 0])), (q1, .inr (3, seF uz)), (q3, .inl (kk 3, 6, .inr (.inr (.inr (.inr (va_up (va_up (va_up (fun _ => none) (0 : Int32).toNatClampNeg (some q4)) (1 : Int32).toNatClampNeg (some q6)) (2 : Int32).toNatClampNeg (some q8))))))), (q4, .inr (2, rmF (rz 0))), (q6, .inr (2, rmF (rz 1))), (q8, .inr (2, rmF (rz 2)))]) := hD
  refine lv_iinc (v := 3) (lv' := [(1, .int 3), (0, .ref h)]) hx hb dX5_init_49 hl (k := 0) rfl (by decide) (by decide) rfl (fun ls hl => ?_)
  refine lv_goto (tgt := 26) hx hb dX5_init_52 (by decide) ?_
  refine lv_iload_n hx hb dX5_init_26 rfl (lv_at hl 0 rfl) ?_
  refine lv_aload_n hx hb dX5_init_27 rfl (lv_at hl 1 rfl) ?_
  refine r_get (v := .ref q3) hx hb hts hown hK hP fl_X5_20 0 rfl rfl dX5_init_28 ?_
  refine r_alen (t0 := 3) hx hb hK hP 2 rfl rfl dX5_init_31 ?_
  refine lv_icmp_ge (tgt := 55) hx hb dX5_init_32 (by decide) (fun c_32_3 => absurd c_32_3 (by decide)) (fun c_32_3 => ?_)
  refine lv_aload_n hx hb dX5_init_35 rfl (lv_at hl 1 rfl) ?_
  refine r_get (v := .ref q3) hx hb hts hown hK hP fl_X5_20 0 rfl rfl dX5_init_36 ?_
  refine lv_iload_n hx hb dX5_init_39 rfl (lv_at hl 0 rfl) ?_
  refine r_new (ci := 2) (fs := [.int 0, .int 0, .int 0, .int 0, .int 0, .int 0, .int 0, .int 0, .int 0, .int 0]) hx hb hts in_X2 tyX2_ok hown nl_X5_18 hK hP hD hS hA rfl (fun j hj => by rcases (show j = 0 ∨ j = 1 ∨ j = 2 ∨ j = 3 ∨ j = 4 ∨ j = 5 ∨ j = 6 ∨ j = 7 ∨ j = 8 ∨ j = 9 by omega) with rfl | rfl | rfl | rfl | rfl | rfl | rfl | rfl | rfl | rfl <;> rfl) (Nat.le_of_ble_eq_true rfl) (Nat.le_of_ble_eq_true rfl) dX5_init_40 (fun q10 H hP hD hS => ?_)
  refine W.widen (k := 6) (n := 52) (Nat.le_refl _) (Nat.le_refl _) ?_
  refine lv_dup hx hb dX5_init_43 rfl ?_
  refine lv_iload_n hx hb dX5_init_44 rfl (lv_at hl 0 rfl) ?_
  refine k_ctor (rest := [.ref q10, .int 3, .ref q3]) (As := [.int 3]) hx hb hml hown hts hK hP hD hS hA hE hl.1 (c_X2_init l G kk q10 3) il_X5_24 ⟨Nat.le_of_ble_eq_true rfl, Nat.le_of_ble_eq_true rfl, rfl, rfl⟩ 6 rfl ⟨Nat.le_of_ble_eq_true rfl, Nat.le_of_ble_eq_true rfl⟩ rfl (Nat.le_of_ble_eq_true rfl) dX5_init_45 (fun H locs t ht hB hj hS => ?_)
  obtain ⟨hP1, hK1, hD1⟩ := hB
  rw [ht] at hP1
  obtain ⟨hP, hD⟩ := hj _ hP1 hD1
  replace hP : va_P G vwCl ([(h, .inr (5, [.ref q1, .ref q3, .int 0, .int 0, .int 0, .int 0, .int 0, .int 0, .int 0, .int 0, .int 0])), (q1, .inr (3, seF uz)), (q3, .inl (kk 3, 6, .inr (.inr (.inr (.inr (va_up (va_up (va_up (fun _ => none) (0 : Int32).toNatClampNeg (some q4)) (1 : Int32).toNatClampNeg (some q6)) (2 : Int32).toNatClampNeg (some q8))))))), (q4, .inr (2, rmF (rz 0))), (q6, .inr (2, rmF (rz 1))), (q8, .inr (2, rmF (rz 2))), (q10, .inr (2, rmF (rz 3)))]) H := hP
  replace hD : va_D A ([(h, .inr (5, [.ref q1, .ref q3, .int 0, .int 0, .int 0, .int 0, .int 0, .int 0, .int 0, .int 0, .int 0])), (q1, .inr (3, seF uz)), (q3, .inl (kk 3, 6, .inr (.inr (.inr (.inr (va_up (va_up (va_up (fun _ => none) (0 : Int32).toNatClampNeg (some q4)) (1 : Int32).toNatClampNeg (some q6)) (2 : Int32).toNatClampNeg (some q8))))))), (q4, .inr (2, rmF (rz 0))), (q6, .inr (2, rmF (rz 1))), (q8, .inr (2, rmF (rz 2))), (q10, .inr (2, rmF (rz 3)))]) := hD
  refine W.widen (k := 6) (n := 52) (Nat.le_refl _) (Nat.le_refl _) ?_
  refine va_astq hx hb hK hP hD hS 2 3 6 2 rfl rfl rfl rfl (ix_in (k := 3) rfl (by decide) (by decide)) dX5_init_48 (fun H locs hP hD hS => ?_)
  replace hP : va_P G vwCl ([(h, .inr (5, [.ref q1, .ref q3, .int 0, .int 0, .int 0, .int 0, .int 0, .int 0, .int 0, .int 0, .int 0])), (q1, .inr (3, seF uz)), (q3, .inl (kk 3, 6, .inr (.inr (.inr (.inr (va_up (va_up (va_up (va_up (fun _ => none) (0 : Int32).toNatClampNeg (some q4)) (1 : Int32).toNatClampNeg (some q6)) (2 : Int32).toNatClampNeg (some q8)) (3 : Int32).toNatClampNeg (some q10))))))), (q4, .inr (2, rmF (rz 0))), (q6, .inr (2, rmF (rz 1))), (q8, .inr (2, rmF (rz 2))), (q10, .inr (2, rmF (rz 3)))]) H := hP
  replace hD : va_D A ([(h, .inr (5, [.ref q1, .ref q3, .int 0, .int 0, .int 0, .int 0, .int 0, .int 0, .int 0, .int 0, .int 0])), (q1, .inr (3, seF uz)), (q3, .inl (kk 3, 6, .inr (.inr (.inr (.inr (va_up (va_up (va_up (va_up (fun _ => none) (0 : Int32).toNatClampNeg (some q4)) (1 : Int32).toNatClampNeg (some q6)) (2 : Int32).toNatClampNeg (some q8)) (3 : Int32).toNatClampNeg (some q10))))))), (q4, .inr (2, rmF (rz 0))), (q6, .inr (2, rmF (rz 1))), (q8, .inr (2, rmF (rz 2))), (q10, .inr (2, rmF (rz 3)))]) := hD
  refine lv_iinc (v := 4) (lv' := [(1, .int 4), (0, .ref h)]) hx hb dX5_init_49 hl (k := 0) rfl (by decide) (by decide) rfl (fun ls hl => ?_)
  refine lv_goto (tgt := 26) hx hb dX5_init_52 (by decide) ?_
  refine lv_iload_n hx hb dX5_init_26 rfl (lv_at hl 0 rfl) ?_
  refine lv_aload_n hx hb dX5_init_27 rfl (lv_at hl 1 rfl) ?_
  refine r_get (v := .ref q3) hx hb hts hown hK hP fl_X5_20 0 rfl rfl dX5_init_28 ?_
  refine r_alen (t0 := 3) hx hb hK hP 2 rfl rfl dX5_init_31 ?_
  refine lv_icmp_ge (tgt := 55) hx hb dX5_init_32 (by decide) (fun c_32_4 => absurd c_32_4 (by decide)) (fun c_32_4 => ?_)
  refine lv_aload_n hx hb dX5_init_35 rfl (lv_at hl 1 rfl) ?_
  refine r_get (v := .ref q3) hx hb hts hown hK hP fl_X5_20 0 rfl rfl dX5_init_36 ?_
  refine lv_iload_n hx hb dX5_init_39 rfl (lv_at hl 0 rfl) ?_
  refine r_new (ci := 2) (fs := [.int 0, .int 0, .int 0, .int 0, .int 0, .int 0, .int 0, .int 0, .int 0, .int 0]) hx hb hts in_X2 tyX2_ok hown nl_X5_18 hK hP hD hS hA rfl (fun j hj => by rcases (show j = 0 ∨ j = 1 ∨ j = 2 ∨ j = 3 ∨ j = 4 ∨ j = 5 ∨ j = 6 ∨ j = 7 ∨ j = 8 ∨ j = 9 by omega) with rfl | rfl | rfl | rfl | rfl | rfl | rfl | rfl | rfl | rfl <;> rfl) (Nat.le_of_ble_eq_true rfl) (Nat.le_of_ble_eq_true rfl) dX5_init_40 (fun q12 H hP hD hS => ?_)
  refine W.widen (k := 7) (n := 62) (Nat.le_refl _) (Nat.le_refl _) ?_
  refine lv_dup hx hb dX5_init_43 rfl ?_
  refine lv_iload_n hx hb dX5_init_44 rfl (lv_at hl 0 rfl) ?_
  refine k_ctor (rest := [.ref q12, .int 4, .ref q3]) (As := [.int 4]) hx hb hml hown hts hK hP hD hS hA hE hl.1 (c_X2_init l G kk q12 4) il_X5_24 ⟨Nat.le_of_ble_eq_true rfl, Nat.le_of_ble_eq_true rfl, rfl, rfl⟩ 7 rfl ⟨Nat.le_of_ble_eq_true rfl, Nat.le_of_ble_eq_true rfl⟩ rfl (Nat.le_of_ble_eq_true rfl) dX5_init_45 (fun H locs t ht hB hj hS => ?_)
  obtain ⟨hP1, hK1, hD1⟩ := hB
  rw [ht] at hP1
  obtain ⟨hP, hD⟩ := hj _ hP1 hD1
  replace hP : va_P G vwCl ([(h, .inr (5, [.ref q1, .ref q3, .int 0, .int 0, .int 0, .int 0, .int 0, .int 0, .int 0, .int 0, .int 0])), (q1, .inr (3, seF uz)), (q3, .inl (kk 3, 6, .inr (.inr (.inr (.inr (va_up (va_up (va_up (va_up (fun _ => none) (0 : Int32).toNatClampNeg (some q4)) (1 : Int32).toNatClampNeg (some q6)) (2 : Int32).toNatClampNeg (some q8)) (3 : Int32).toNatClampNeg (some q10))))))), (q4, .inr (2, rmF (rz 0))), (q6, .inr (2, rmF (rz 1))), (q8, .inr (2, rmF (rz 2))), (q10, .inr (2, rmF (rz 3))), (q12, .inr (2, rmF (rz 4)))]) H := hP
  replace hD : va_D A ([(h, .inr (5, [.ref q1, .ref q3, .int 0, .int 0, .int 0, .int 0, .int 0, .int 0, .int 0, .int 0, .int 0])), (q1, .inr (3, seF uz)), (q3, .inl (kk 3, 6, .inr (.inr (.inr (.inr (va_up (va_up (va_up (va_up (fun _ => none) (0 : Int32).toNatClampNeg (some q4)) (1 : Int32).toNatClampNeg (some q6)) (2 : Int32).toNatClampNeg (some q8)) (3 : Int32).toNatClampNeg (some q10))))))), (q4, .inr (2, rmF (rz 0))), (q6, .inr (2, rmF (rz 1))), (q8, .inr (2, rmF (rz 2))), (q10, .inr (2, rmF (rz 3))), (q12, .inr (2, rmF (rz 4)))]) := hD
  refine W.widen (k := 7) (n := 62) (Nat.le_refl _) (Nat.le_refl _) ?_
  refine va_astq hx hb hK hP hD hS 2 3 7 2 rfl rfl rfl rfl (ix_in (k := 4) rfl (by decide) (by decide)) dX5_init_48 (fun H locs hP hD hS => ?_)
  replace hP : va_P G vwCl ([(h, .inr (5, [.ref q1, .ref q3, .int 0, .int 0, .int 0, .int 0, .int 0, .int 0, .int 0, .int 0, .int 0])), (q1, .inr (3, seF uz)), (q3, .inl (kk 3, 6, .inr (.inr (.inr (.inr (va_up (va_up (va_up (va_up (va_up (fun _ => none) (0 : Int32).toNatClampNeg (some q4)) (1 : Int32).toNatClampNeg (some q6)) (2 : Int32).toNatClampNeg (some q8)) (3 : Int32).toNatClampNeg (some q10)) (4 : Int32).toNatClampNeg (some q12))))))), (q4, .inr (2, rmF (rz 0))), (q6, .inr (2, rmF (rz 1))), (q8, .inr (2, rmF (rz 2))), (q10, .inr (2, rmF (rz 3))), (q12, .inr (2, rmF (rz 4)))]) H := hP
  replace hD : va_D A ([(h, .inr (5, [.ref q1, .ref q3, .int 0, .int 0, .int 0, .int 0, .int 0, .int 0, .int 0, .int 0, .int 0])), (q1, .inr (3, seF uz)), (q3, .inl (kk 3, 6, .inr (.inr (.inr (.inr (va_up (va_up (va_up (va_up (va_up (fun _ => none) (0 : Int32).toNatClampNeg (some q4)) (1 : Int32).toNatClampNeg (some q6)) (2 : Int32).toNatClampNeg (some q8)) (3 : Int32).toNatClampNeg (some q10)) (4 : Int32).toNatClampNeg (some q12))))))), (q4, .inr (2, rmF (rz 0))), (q6, .inr (2, rmF (rz 1))), (q8, .inr (2, rmF (rz 2))), (q10, .inr (2, rmF (rz 3))), (q12, .inr (2, rmF (rz 4)))]) := hD
  refine lv_iinc (v := 5) (lv' := [(1, .int 5), (0, .ref h)]) hx hb dX5_init_49 hl (k := 0) rfl (by decide) (by decide) rfl (fun ls hl => ?_)
  refine lv_goto (tgt := 26) hx hb dX5_init_52 (by decide) ?_
  refine lv_iload_n hx hb dX5_init_26 rfl (lv_at hl 0 rfl) ?_
  refine lv_aload_n hx hb dX5_init_27 rfl (lv_at hl 1 rfl) ?_
  refine r_get (v := .ref q3) hx hb hts hown hK hP fl_X5_20 0 rfl rfl dX5_init_28 ?_
  refine r_alen (t0 := 3) hx hb hK hP 2 rfl rfl dX5_init_31 ?_
  refine lv_icmp_ge (tgt := 55) hx hb dX5_init_32 (by decide) (fun c_32_5 => absurd c_32_5 (by decide)) (fun c_32_5 => ?_)
  refine lv_aload_n hx hb dX5_init_35 rfl (lv_at hl 1 rfl) ?_
  refine r_get (v := .ref q3) hx hb hts hown hK hP fl_X5_20 0 rfl rfl dX5_init_36 ?_
  refine lv_iload_n hx hb dX5_init_39 rfl (lv_at hl 0 rfl) ?_
  refine r_new (ci := 2) (fs := [.int 0, .int 0, .int 0, .int 0, .int 0, .int 0, .int 0, .int 0, .int 0, .int 0]) hx hb hts in_X2 tyX2_ok hown nl_X5_18 hK hP hD hS hA rfl (fun j hj => by rcases (show j = 0 ∨ j = 1 ∨ j = 2 ∨ j = 3 ∨ j = 4 ∨ j = 5 ∨ j = 6 ∨ j = 7 ∨ j = 8 ∨ j = 9 by omega) with rfl | rfl | rfl | rfl | rfl | rfl | rfl | rfl | rfl | rfl <;> rfl) (Nat.le_of_ble_eq_true rfl) (Nat.le_of_ble_eq_true rfl) dX5_init_40 (fun q14 H hP hD hS => ?_)
  refine W.widen (k := 8) (n := 72) (Nat.le_refl _) (Nat.le_refl _) ?_
  refine lv_dup hx hb dX5_init_43 rfl ?_
  refine lv_iload_n hx hb dX5_init_44 rfl (lv_at hl 0 rfl) ?_
  refine k_ctor (rest := [.ref q14, .int 5, .ref q3]) (As := [.int 5]) hx hb hml hown hts hK hP hD hS hA hE hl.1 (c_X2_init l G kk q14 5) il_X5_24 ⟨Nat.le_of_ble_eq_true rfl, Nat.le_of_ble_eq_true rfl, rfl, rfl⟩ 8 rfl ⟨Nat.le_of_ble_eq_true rfl, Nat.le_of_ble_eq_true rfl⟩ rfl (Nat.le_of_ble_eq_true rfl) dX5_init_45 (fun H locs t ht hB hj hS => ?_)
  obtain ⟨hP1, hK1, hD1⟩ := hB
  rw [ht] at hP1
  obtain ⟨hP, hD⟩ := hj _ hP1 hD1
  replace hP : va_P G vwCl ([(h, .inr (5, [.ref q1, .ref q3, .int 0, .int 0, .int 0, .int 0, .int 0, .int 0, .int 0, .int 0, .int 0])), (q1, .inr (3, seF uz)), (q3, .inl (kk 3, 6, .inr (.inr (.inr (.inr (va_up (va_up (va_up (va_up (va_up (fun _ => none) (0 : Int32).toNatClampNeg (some q4)) (1 : Int32).toNatClampNeg (some q6)) (2 : Int32).toNatClampNeg (some q8)) (3 : Int32).toNatClampNeg (some q10)) (4 : Int32).toNatClampNeg (some q12))))))), (q4, .inr (2, rmF (rz 0))), (q6, .inr (2, rmF (rz 1))), (q8, .inr (2, rmF (rz 2))), (q10, .inr (2, rmF (rz 3))), (q12, .inr (2, rmF (rz 4))), (q14, .inr (2, rmF (rz 5)))]) H := hP
  replace hD : va_D A ([(h, .inr (5, [.ref q1, .ref q3, .int 0, .int 0, .int 0, .int 0, .int 0, .int 0, .int 0, .int 0, .int 0])), (q1, .inr (3, seF uz)), (q3, .inl (kk 3, 6, .inr (.inr (.inr (.inr (va_up (va_up (va_up (va_up (va_up (fun _ => none) (0 : Int32).toNatClampNeg (some q4)) (1 : Int32).toNatClampNeg (some q6)) (2 : Int32).toNatClampNeg (some q8)) (3 : Int32).toNatClampNeg (some q10)) (4 : Int32).toNatClampNeg (some q12))))))), (q4, .inr (2, rmF (rz 0))), (q6, .inr (2, rmF (rz 1))), (q8, .inr (2, rmF (rz 2))), (q10, .inr (2, rmF (rz 3))), (q12, .inr (2, rmF (rz 4))), (q14, .inr (2, rmF (rz 5)))]) := hD
  refine W.widen (k := 8) (n := 72) (Nat.le_refl _) (Nat.le_refl _) ?_
  refine va_astq hx hb hK hP hD hS 2 3 8 2 rfl rfl rfl rfl (ix_in (k := 5) rfl (by decide) (by decide)) dX5_init_48 (fun H locs hP hD hS => ?_)
  replace hP : va_P G vwCl ([(h, .inr (5, [.ref q1, .ref q3, .int 0, .int 0, .int 0, .int 0, .int 0, .int 0, .int 0, .int 0, .int 0])), (q1, .inr (3, seF uz)), (q3, .inl (kk 3, 6, .inr (.inr (.inr (.inr (va_up (va_up (va_up (va_up (va_up (va_up (fun _ => none) (0 : Int32).toNatClampNeg (some q4)) (1 : Int32).toNatClampNeg (some q6)) (2 : Int32).toNatClampNeg (some q8)) (3 : Int32).toNatClampNeg (some q10)) (4 : Int32).toNatClampNeg (some q12)) (5 : Int32).toNatClampNeg (some q14))))))), (q4, .inr (2, rmF (rz 0))), (q6, .inr (2, rmF (rz 1))), (q8, .inr (2, rmF (rz 2))), (q10, .inr (2, rmF (rz 3))), (q12, .inr (2, rmF (rz 4))), (q14, .inr (2, rmF (rz 5)))]) H := hP
  replace hD : va_D A ([(h, .inr (5, [.ref q1, .ref q3, .int 0, .int 0, .int 0, .int 0, .int 0, .int 0, .int 0, .int 0, .int 0])), (q1, .inr (3, seF uz)), (q3, .inl (kk 3, 6, .inr (.inr (.inr (.inr (va_up (va_up (va_up (va_up (va_up (va_up (fun _ => none) (0 : Int32).toNatClampNeg (some q4)) (1 : Int32).toNatClampNeg (some q6)) (2 : Int32).toNatClampNeg (some q8)) (3 : Int32).toNatClampNeg (some q10)) (4 : Int32).toNatClampNeg (some q12)) (5 : Int32).toNatClampNeg (some q14))))))), (q4, .inr (2, rmF (rz 0))), (q6, .inr (2, rmF (rz 1))), (q8, .inr (2, rmF (rz 2))), (q10, .inr (2, rmF (rz 3))), (q12, .inr (2, rmF (rz 4))), (q14, .inr (2, rmF (rz 5)))]) := hD
  refine lv_iinc (v := 6) (lv' := [(1, .int 6), (0, .ref h)]) hx hb dX5_init_49 hl (k := 0) rfl (by decide) (by decide) rfl (fun ls hl => ?_)
  refine lv_goto (tgt := 26) hx hb dX5_init_52 (by decide) ?_
  refine lv_iload_n hx hb dX5_init_26 rfl (lv_at hl 0 rfl) ?_
  refine lv_aload_n hx hb dX5_init_27 rfl (lv_at hl 1 rfl) ?_
  refine r_get (v := .ref q3) hx hb hts hown hK hP fl_X5_20 0 rfl rfl dX5_init_28 ?_
  refine r_alen (t0 := 3) hx hb hK hP 2 rfl rfl dX5_init_31 ?_
  refine lv_icmp_ge (tgt := 55) hx hb dX5_init_32 (by decide) (fun c_32_6 => ?_) (fun c_32_6 => absurd (by decide) c_32_6)
  have hk2 := arr_same (k := 2) (g := fun j => some (adr9 h q1 q3 q4 q6 q8 q10 q12 q14 (3 + j))) hP rfl (fun j hj => six (P := fun j => (va_up (va_up (va_up (va_up (va_up (va_up (fun _ => none) (0 : Int32).toNatClampNeg (some q4)) (1 : Int32).toNatClampNeg (some q6)) (2 : Int32).toNatClampNeg (some q8)) (3 : Int32).toNatClampNeg (some q10)) (4 : Int32).toNatClampNeg (some q12)) (5 : Int32).toNatClampNeg (some q14)) j = some (adr9 h q1 q3 q4 q6 q8 q10 q12 q14 (3 + j))) rfl rfl rfl rfl rfl rfl hj)
  replace hP : va_P G vwCl (stW kk (adr9 h q1 q3 q4 q6 q8 q10 q12 q14) gz uz rz) H := hk2
  replace hD : va_D A (stW kk (adr9 h q1 q3 q4 q6 q8 q10 q12 q14) gz uz rz) := vD_arr hD rfl
  exact fin_c (B := fun A t => ∃ a : Nat → Nat, a 0 = h ∧ mB G kk (stW kk a gz uz rz) A t) hx hb hr hlocks hS (fun t ht hal => ⟨adr9 h q1 q3 q4 q6 q8 q10 q12 q14, rfl, by rw [ht]; exact hP, va_K.moved hal hK, hD⟩) dX5_init_55
set_option maxRecDepth 100000 in
set_option maxHeartbeats 4000000 in
theorem c_X4_init (l : Launch) (G : va_G) (kk : Nat → ClassId) (h : Nat)  : CI l yX4_init cX4_init 1 (rmI 3 80 9 83) [.ref h] G kk [(h, .inr (4, [.null, .int 0]))] 9 83 (fun A t => ∃ b : Nat → Nat, mB G kk ([(h, .inr (4, slF (b 0) gz))] ++ (stW kk b gz uz rz)) A t) := by
  refine ci_start (by decide +kernel) (Nat.le_of_ble_eq_true rfl) rfl ?_
  intro p e s m below meth c A ls hx hb hr hml hown hts hlocks hA hE hK hP hD hS hl hin
  have hown : s.vm.findClass RX4 = some m.cls := hown
  have hl : lv_has ls 1 [(0, .ref h)] := hl
  refine lv_aload_n hx hb dX4_init_0 rfl (lv_at hl 0 rfl) ?_
  refine r_obj hx hb hml hl.1 hown hts ol_X4_1 dX4_init_1 (Nat.le_of_ble_eq_true rfl) (Nat.le_of_ble_eq_true rfl) ?_
  refine lv_aload_n hx hb dX4_init_4 rfl (lv_at hl 0 rfl) ?_
  refine r_new (ci := 5) (fs := [.null, .null, .int 0, .int 0, .int 0, .int 0, .int 0, .int 0, .int 0, .int 0, .int 0]) hx hb hts in_X5 tyX5_ok hown nl_X4_7 hK hP hD hS hA rfl (fun j hj => by rcases (show j = 0 ∨ j = 1 ∨ j = 2 ∨ j = 3 ∨ j = 4 ∨ j = 5 ∨ j = 6 ∨ j = 7 ∨ j = 8 ∨ j = 9 ∨ j = 10 by omega) with rfl | rfl | rfl | rfl | rfl | rfl | rfl | rfl | rfl | rfl | rfl <;> rfl) (Nat.le_of_ble_eq_true rfl) (Nat.le_of_ble_eq_true rfl) dX4_init_5 (fun q1 H hP hD hS => ?_)
  refine W.widen (k := 1) (n := 11) (Nat.le_refl _) (Nat.le_refl _) ?_
  refine lv_dup hx hb dX4_init_8 rfl ?_
  refine k_ctor (rest := [.ref q1, .ref h]) (As := []) hx hb hml hown hts hK hP hD hS hA hE hl.1 (c_X5_init l G kk q1) il_X4_9 ⟨Nat.le_of_ble_eq_true rfl, Nat.le_of_ble_eq_true rfl, rfl, rfl⟩ 1 rfl ⟨Nat.le_of_ble_eq_true rfl, Nat.le_of_ble_eq_true rfl⟩ rfl (Nat.le_of_ble_eq_true rfl) dX4_init_9 (fun H locs t ht hB hj hS => ?_)
  obtain ⟨a2, ha2, hP1, hK1, hD1⟩ := hB
  rw [ht] at hP1
  subst ha2
  obtain ⟨hP, hD⟩ := hj _ hP1 hD1
  replace hP : va_P G vwCl ([(h, .inr (4, [.null, .int 0]))] ++ (stW kk a2 gz uz rz)) H := vP_eq2 hP (by simp only [List.append_assoc, List.cons_append, List.nil_append])
  replace hD : va_D A ([(h, .inr (4, [.null, .int 0]))] ++ (stW kk a2 gz uz rz)) := vD_eq2 hD (by simp only [List.append_assoc, List.cons_append, List.nil_append])
  refine W.widen (k := 9) (n := 83) (Nat.le_refl _) (Nat.le_refl _) ?_
  refine r_putF (v := .ref (a2 0)) hx hb hts hown hK hP hD hS ff_X4_10 hin 0 rfl rfl rfl (Nat.le_of_ble_eq_true rfl) dX4_init_12 (fun H locs hP hD hS => ?_)
  replace hP : va_P G vwCl ([(h, .inr (4, [.ref (a2 0), .int 0]))] ++ (stW kk a2 gz uz rz)) H := hP
  replace hD : va_D A ([(h, .inr (4, [.ref (a2 0), .int 0]))] ++ (stW kk a2 gz uz rz)) := hD
  exact fin_c (B := fun A t => ∃ b : Nat → Nat, mB G kk ([(h, .inr (4, slF (b 0) gz))] ++ (stW kk b gz uz rz)) A t) hx hb hr hlocks hS (fun t ht hal => ⟨a2, by rw [ht]; exact hP, va_K.moved hal hK, hD⟩) dX4_init_15
