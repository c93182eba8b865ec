/-! The law's helpers: they call a method that may throw, and catch -/
theorem q0 {a : Nat × va_E} {l : va_W} : (a :: l)[0]? = some a := rfl
theorem qs {a x : Nat × va_E} {l : va_W} {n : Nat} (h : l[n]? = some x) : (a :: l)[n + 1]? = some x := by simpa using h
theorem e0 {a x : Nat × va_E} {l : va_W} : (a :: l).set 0 x = x :: l := rfl
theorem es {a x : Nat × va_E} {l l' : va_W} {n : Nat} (h : l.set n x = l') : (a :: l).set (n + 1) x = a :: l' := by rw [List.set_cons_succ, h]
def NC (U : State) : Prop := va_Nc "java/lang/IllegalStateException" "java/lang/IllegalArgumentException" U ∧ va_Nc "java/lang/IllegalArgumentException" "java/lang/IndexOutOfBoundsException" U ∧ va_Nc "java/lang/IllegalStateException" "java/lang/IndexOutOfBoundsException" U
theorem NC.alike {u U : State} (hvm : u.vm.Alike U.vm) (h : NC u) : NC U := ⟨h.1.moved hvm, h.2.1.moved hvm, h.2.2.moved hvm⟩
def mN (G : va_G) (kk : Nat → ClassId) (sz : Nat) (ws : va_W) : State → Prop := fun U => mP G kk sz ws U ∧ NC U
theorem blind_mN {as : List Value} {G : va_G} {kk : Nat → ClassId} {sz : Nat} {wc : va_W} : FrameBlind (va_Pc as (mN G kk sz wc)) := fun a U g mk q => by
  obtain ⟨q0, ⟨q1, qP, qK, qD, qE⟩, qN⟩ := q
  exact ⟨q0, ⟨q1, qP, va_K.moved (u := U) (U := U.calling g mk a) (Vm.Alike.refl U.vm) qK, qD, qE.calling g mk a⟩, NC.alike (u := U) (U := U.calling g mk a) (Vm.Alike.refl U.vm) qN⟩
def CH (l : Launch) (y : MethodName) (b : ByteArray) (n : Nat) (hh : List (Nat × Nat × Nat × Nat)) (rm : Room) (as : List Value) (G : va_G) (kk : Nat → ClassId) (wc : va_W) (Qk : (Nat → Prop) → Array Value → State → Outcome → State → Prop) : Prop :=
  ∀ sz : Nat, Met l y (.codeWith y b n (some .int) hh :: WG) rm (va_Pc as (mN G kk sz wc)) (Qk (va_A wc sz)) 1 6 (va_A wc sz)
theorem mh_ofWH {l : Launch} {y : MethodName} {ws ws' : List Cond} {rm : Room} {Pc : Array Value → State → Prop} {Qc : Array Value → State → Outcome → State → Prop} {mc ms : Nat} {free : Addr → Prop} {cc : ByteArray} {maxL : Nat} {ret : Option FieldType} {hh : List (Nat × Nat × Nat × Nat)}
    (hy : plainName y.cls = true) (hw : ws = Cond.codeWith y cc maxL ret hh :: ws')
    (body : ∀ p e s m args below meth c s₁, BodyLoose p l y (headSpec ws rm) cc maxL ret e s m args below meth c s₁ → c.maxLocals = maxL → Pc args s →
      W p l e (headSpec ws rm).room s m args below meth c s.heap [] 0 0 (MQ below Qc args s mc ms free) (entryFrame m args maxL)) : Met l y ws rm Pc Qc mc ms free := by
  refine MetFree.of_bodyS (code := cc) (maxLocals := maxL) (ret := ret) hy ?_ ?_
  · intro args s m h hn
    obtain ⟨m9, meth, c, hn9, h1, h2, h3, h4, -, h5, h6, -⟩ := Cond.codeWith_spec (atoms_spec (ws := ws) h _ (by rw [hw]; exact List.mem_cons_self))
    cases hn.symm.trans hn9
    exact ⟨meth, c, h1, h2, h3, h4, h5, h6⟩
  · intro p e s m args below meth c s₁ B hml hP _
    have hh0 : s₁.heap = s.heap := by rw [B.state]; rfl
    obtain ⟨t, a1, o, b1, b2, b3⟩ := body p e s m args below meth c s₁ B hml hP s₁ hh0 (Stand.of_body B)
    exact ⟨t, o, a1, b1, b2, b3⟩
theorem ch_start {l : Launch} {y : MethodName} {b : ByteArray} {n : Nat} {hh : List (Nat × Nat × Nat × Nat)} {rm : Room} {as : List Value} {G : va_G} {kk : Nat → ClassId} {wc : va_W} {Qk : (Nat → Prop) → Array Value → State → Outcome → State → Prop} (hy : plainName y.cls = true) (hn : (lg_sl as).length ≤ n)
    (body : ∀ (p : Program) (e : Env) (s : State) (m : MethodId) (below : List Frame) (meth : Method) (c : Code) (A : Nat → Prop) (ls : Array Slot), p.tables.exec = Jvm.exec → c.code = b → meth.sig.returnType = some .int → c.maxLocals = n → s.vm.findClass y.cls = some m.cls → (∀ w ∈ WG, w.before as.toArray s = true) → meth.locks = false → (∀ q : Nat, s.heap.size ≤ q → A q) → ENV A s → NC s → va_K G vwCl (TYS kk) s → va_P G vwCl wc s.heap → va_D A wc → va_S A s.heap s.heap [] → lv_has ls n (lv_args 0 as) → c.exceptionTable.toList = tableOf hh →
      W p l e rm s m as.toArray below meth c s.heap [] 0 0 (MQ below (Qk A) as.toArray s 1 6 A) (F0 m 0 ls [])) : CH l y b n hh rm as G kk wc Qk := by
  intro sz
  refine mh_ofWH (cc := b) (maxL := n) (ret := some .int) (hh := hh) hy rfl ?_
  intro p e s m args below meth c s₁ B hml hv
  obtain ⟨rfl, ⟨hsz, hP, hK, hD0, hE⟩, hN⟩ := hv
  have hts := atoms_spec (ws := .codeWith y b n (some .int) hh :: WG) B.pre
  subst hsz
  have hD := hD0.self (sz := s.heap.size)
  rw [lg_entry_eq]
  exact body p e s m below meth c _ _ B.exec B.bytes B.returns hml (findClass_of_methodNamed B.named) (fun w hw => hts w (List.mem_cons_of_mem _ hw)) B.notSynchronized (fun q h => Or.inr h) hE hN hK hP hD va_S.rf (lv_entry as hn) (vx_table (x := y) B (hts _ List.mem_cons_self))
def oL (cd r : Int32) (fo : Nat → Int64) : Nat → Int64 := if cd = 0 then vp_updL fo 0 r.toInt64 else fo
def h1 (a cd : Int32) : Int32 := if cd = 0 then 0 else if cd = a then 1 else 2
theorem oL_0 {cd r : Int32} {fo : Nat → Int64} (h : cd = 0) : oL cd r fo = vp_updL fo 0 r.toInt64 := if_pos h
theorem oL_n {cd r k : Int32} {fo : Nat → Int64} (h : cd = k) (hk : ¬ k = 0) : oL cd r fo = fo := if_neg (by rw [h]; exact hk)
theorem h1_0 {a cd : Int32} (h : cd = 0) : h1 a cd = 0 := if_pos h
theorem h1_1 {a cd : Int32} (h : cd = a) (hk : ¬ a = 0) : h1 a cd = 1 := by
  unfold h1
  rw [h, if_neg hk, if_pos rfl]
theorem h1_2 {a k cd : Int32} (h : cd = k) (hk : ¬ k = 0) (hka : ¬ k = a) : h1 a cd = 2 := by
  unfold h1
  rw [h, if_neg hk, if_neg hka]
theorem mem1 {x a : Int32} (h : x ∈ [a]) : x = a := List.mem_singleton.mp h
theorem mem2 {x a b : Int32} (h : x ∈ [a, b]) : x = a ∨ x = b := by simpa using h
theorem xc_1 : Cond.castable "java/lang/IllegalArgumentException" "java/lang/IllegalArgumentException" ∈ NWL := tw_1.2.2.2.2.2.1 _ List.mem_cons_self
theorem xc_2 : Cond.castable "java/lang/IllegalStateException" "java/lang/IllegalStateException" ∈ NWL := tw_2.2.2.2.2.2.1 _ List.mem_cons_self
theorem xc_3 : Cond.castable "java/lang/IndexOutOfBoundsException" "java/lang/IndexOutOfBoundsException" ∈ NWL := tw_3.2.2.2.2.2.1 _ List.mem_cons_self
theorem cl_20 : Cond.classLink RL 20 "java/lang/IllegalArgumentException" ∈ WG := wg_of 282 (by decide +kernel) rfl
theorem cl_31 : Cond.classLink RL 31 "java/lang/IllegalStateException" ∈ WG := wg_of 283 (by decide +kernel) rfl
theorem cl_13 : Cond.classLink RL 13 "java/lang/IndexOutOfBoundsException" ∈ WG := wg_of 603 (by decide +kernel) rfl
section HELP
variable {p : Program} {l : Launch} {e : Env} {R : Room} {s : State} {m : MethodId} {args : Array Value} {below : List Frame} {meth : Method} {c : Code} {H : Heap} {locs : List Loc} {cells slots : Nat} {Q : State → Prop}
variable {cc : ByteArray} {pc nL : Nat} {ls : Array Slot} {rest st0 : List Value} {G : va_G} {kk : Nat → ClassId} {A : Nat → Prop} {ws wc w1 : va_W} {own : String} {index a n ci q0 : Nat} {y : MethodName} {b : ByteArray} {ret : Option FieldType} {rm : Room} {As : List Value} {fs : List Value} {qc : vw_C} {H0 : Heap} {wf : va_W}
variable {Qk : (Nat → Prop) → Array Value → State → Outcome → State → Prop} {XK : (Nat → Prop) → String → State → State → Prop}
theorem k_runX (hx : p.tables.exec = Jvm.exec) (hb : c.code = cc) (hml : c.maxLocals = nL) (hown : s.vm.findClass own = some m.cls) (hts : ∀ w ∈ WG, w.before args s = true) (hK : va_K G vwCl (TYS kk) s) (hP : va_P G vwCl ws H) (hD : va_D A ws) (hS : va_S A s.heap H locs) (hA : ∀ q : Nat, s.heap.size ≤ q → A q) (hE : ENV A s) (hl : ls.size = nL)
    (hc : CX l y b n ret rm (.ref a :: As) G kk wc Qk XK) (vl : VL own index y b n ret As.length) (hcl : vwCl[ci]? = some qc) (hcn : y.cls = qc.1) (he : wc[0]? = some (a, .inr (ci, fs))) (hrm : rm.frames + 1 ≤ R.frames ∧ 8 + (n + 11) + rm.locals ≤ R.locals ∧ rm.cells = 1 ∧ rm.slots = 6)
    (isC : List Nat) (hnd : va_nd isC = true) (hC : isC.map (fun i => ws[i]?) = wc.map some) (hcs : cells + 1 ≤ R.cells ∧ slots + 6 ≤ R.slots) (hst : st0 = As.reverse ++ .ref a :: rest) (hWr : (rest.map fun v => v.category).sum ≤ 8) (hdg : decode cc pc = .ok (.invokevirtual index, 3)) :
    vx_Run p l e R s m args below meth c H locs cells slots 1 6 (F0 m pc ls st0) rest (Qk (va_A wc H.size) (Value.ref a :: As).toArray) (XK (va_A wc H.size)) (va_A wc H.size) := by
  subst hst
  obtain ⟨v1, v2, v3, v4, v5, v6, v7, v8⟩ := vl
  have hPc := sub_P hP isC hC
  have hDc := hD.sub isC hnd hC
  refine vx_runV (Ts := WG) (C := y.cls) (ws := .code y b n ret :: WG) (rm := rm) (bytes := b) (maxL := n) (ret := ret) (n := As.length) (As := As) (rest := rest) (b := a) ⟨hx, hb, hml, hown, hts⟩ (hc H.size) ?_ ⟨blind_mP, ?_, fun U hU hW => ⟨rfl, by rw [hU], by rw [hU]; exact hPc, va_K.moved hW.alike hK, hDc.weaken (fun _ _ _ _ => trivial), hE.go hS (va_free hD hS hA isC hC) hU hW⟩⟩ rfl rfl hl rfl (lv_room hWr) hdg hcs
  · refine cwV (ws' := WG) As.length hts (wg_goodIn ?_) rfl hrm.2.2.1 hrm.2.2.2 ⟨rfl, v6, v7, v8⟩ ⟨hrm.1, hrm.2.1⟩
    intro w hw
    simp only [wsV, List.cons_append, List.nil_append, List.mem_cons] at hw
    rcases hw with rfl | rfl | rfl | rfl | rfl | hw
    · exact v1
    · exact v2
    · exact v3
    · exact v4
    · exact v5
    · exact hw
  · rw [hcn]
    exact va_recv hK hPc hcl he
theorem k_goX {r cd : Int32} {S : List Int32} {ar : Array Value} (hr : vx_Run p l e R s m args below meth c H locs cells slots 1 6 (F0 m pc ls st0) rest (QIX G kk w1 r cd (va_A wc H.size) ar) (XKX G kk w1 S cd (va_A wc H.size)) (va_A wc H.size)) (hP : va_P G vwCl ws H) (hD : va_D A ws) (hS : va_S A H0 H locs) (hA : ∀ q : Nat, H0.size ≤ q → A q) (isC : List Nat) (hC : isC.map (fun i => ws[i]?) = wc.map some) (ha : w1.map (fun q => q.1) = wc.map (fun q => q.1))
    (kx : ∀ (E : String) (ce : Cell) (q9 : Addr) (H1 : Heap) (locs1 : List Loc), cd ∈ S → E = xn cd → va_P G vwCl (setMany ws isC w1) H1 → va_D A (setMany ws isC w1) → va_S A H0 H1 locs1 → H1[q9]? = some ce → ce.vm = .none → s.vm.findClass E = some ce.cls → vx_W p l e R s m args below meth c H1 locs1 (cells + 1) (slots + 6) Q (F0 m pc ls rest) q9)
    (k : ∀ (H1 : Heap) (locs1 : List Loc), cd = 0 → va_P G vwCl (setMany ws isC w1) H1 → va_D A (setMany ws isC w1) → va_S A H0 H1 locs1 → W p l e R s m args below meth c H1 locs1 (cells + 1) (slots + 6) Q (F0 m (pc + 3) ls (.int r :: rest))) : W p l e R s m args below meth c H locs cells slots Q (F0 m pc ls st0) := by
  have hF := va_free hD hS hA isC hC
  refine vx_calli hr hS (fun q _ h => hF q h) hF (fun q _ h => hF q h) (fun E ce q9 u t H1 locs1 ht hvm hcd hB hz hk hS1 hce hcv hcl => ?_) (fun r1 u t H1 locs1 ht hvm hw hB hz hk hS1 => ?_)
  · obtain ⟨hE9, hP1, -, -⟩ := hB
    rw [ht] at hP1
    obtain ⟨h1, h2⟩ := keep_set hP hD isC hC ha hk hP1
    exact kx E ce q9 H1 locs1 hcd hE9 h1 h2 hS1 hce hcv hcl
  · obtain ⟨rfl, h0⟩ := hw
    obtain ⟨hP1, -, -⟩ := hB
    rw [ht] at hP1
    obtain ⟨h1, h2⟩ := keep_set hP hD isC hC ha hk hP1
    exact k H1 locs1 h0 h1 h2 hS1
theorem fin_h {r v : Int32} (hx : p.tables.exec = Jvm.exec) (hb : c.code = cc) (hr : meth.sig.returnType = some .int) (hlocks : meth.locks = false) (hK : va_K G vwCl (TYS kk) s) (hP : va_P G vwCl wf H) (hD : va_D A wf) (hS : va_S A s.heap H locs) (e1 : r = v) (hdg : decode cc pc = .ok (.ireturn, 1)) :
    W p l e R s m args below meth c H locs 1 6 (MQ below (QI G kk wf r A) args s 1 6 A) (F0 m pc ls [.int v]) :=
  W.iret hx hb hr (fun t ht hW => ⟨⟨v, (), rfl, e1.symm, by rw [ht]; exact hP, va_K.moved hW.alike hK, hD⟩, hS.F ht⟩) hS.2.2 hdg hlocks
end HELP
