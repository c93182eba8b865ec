/-! Methods that throw: their contracts, their ends -/
def xn (c : Int32) : String := if c = 1 then "java/lang/IllegalArgumentException" else if c = 2 then "java/lang/IllegalStateException" else "java/lang/IndexOutOfBoundsException"
abbrev XNS : List String := ["java/lang/RuntimeException", "java/lang/Exception"]
abbrev XB (cls : String) : List Cond := [.castable cls cls, .declares (Bundle.initS "java/lang/RuntimeException"), .declares (Bundle.initS "java/lang/Exception"), .declares (Bundle.initS Bundle.tN)]
abbrev rmX (f n : Nat) : Room := { frames := f, cells := 1, slots := 6, locals := n }
def QIX (G : va_G) (kk : Nat → ClassId) (w1 : va_W) (r cd : Int32) (A : Nat → Prop) : Array Value → State → Outcome → State → Prop := va_Qi (S := Unit) (fun x _ => x = r ∧ cd = 0) (fun _ t => mB G kk w1 A t) A
def XKX (G : va_G) (kk : Nat → ClassId) (w1 : va_W) (S : List Int32) (cd : Int32) (A : Nat → Prop) : String → State → State → Prop := vx_X (S := Unit) (fun _ => cd ∈ S) (fun E _ t => E = xn cd ∧ mB G kk w1 A t) A
def CX (l : Launch) (y : MethodName) (b : ByteArray) (n : Nat) (ret : Option FieldType) (rm : Room) (as : List Value) (G : va_G) (kk : Nat → ClassId) (wc : va_W) (Qk : (Nat → Prop) → Array Value → State → Outcome → State → Prop) (XK : (Nat → Prop) → String → State → State → Prop) : Prop :=
  ∀ sz : Nat, vx_Met l y (.code y b n ret :: WG) rm (va_Pc as (mP G kk sz wc)) (Qk (va_A wc sz)) (XK (va_A wc sz)) 1 6 (va_A wc sz)
theorem cx_start {l : Launch} {y : MethodName} {b : ByteArray} {n : Nat} {ret : Option FieldType} {rm : Room} {as : List Value} {G : va_G} {kk : Nat → ClassId} {wc : va_W} {Qk : (Nat → Prop) → Array Value → State → Outcome → State → Prop} {XK : (Nat → Prop) → String → State → State → Prop} (hy : plainName y.cls = true) (hn : (lg_sl as).length ≤ n)
    (body : ∀ (p : Program) (e : Env) (s : State) (m : MethodId) (below : List Frame) (meth : Method) (c : Code) (A : Nat → Prop) (ls : Array Slot), p.tables.exec = Jvm.exec → c.code = b → meth.sig.returnType = ret → c.maxLocals = n → s.vm.findClass y.cls = some m.cls → (∀ w ∈ WG, w.before as.toArray s = true) → meth.locks = false → (∀ q : Nat, s.heap.size ≤ q → A q) → ENV A s → va_K G vwCl (TYS kk) s → va_P G vwCl wc s.heap → va_D A wc → va_S A s.heap s.heap [] → lv_has ls n (lv_args 0 as) → (∀ x ∈ c.exceptionTable.toList, False) →
      W p l e rm s m as.toArray below meth c s.heap [] 0 0 (vx_MQ below (Qk A) (XK A) as.toArray s 1 6 A) (F0 m 0 ls [])) : CX l y b n ret rm as G kk wc Qk XK := by
  intro sz
  refine vx_ofW (cc := b) (maxL := n) (ret := ret) hy rfl ?_
  intro p e s m args below meth c s₁ B hml hxt hv
  obtain ⟨rfl, hsz, hP, hK, hD0, hE⟩ := hv
  have hts := atoms_spec (ws := .code y b n ret :: WG) B.pre
  subst hsz
  have hD := hD0.self (sz := s.heap.size)
  rw [lg_entry_eq]
  exact body p e s m below meth c _ _ B.exec B.bytes B.returns hml (findClass_of_methodNamed B.named) (fun w hw => hts w (List.mem_cons_of_mem _ hw)) B.notSynchronized (fun q h => Or.inr h) hE hK hP hD va_S.rf (lv_entry as hn) hxt
abbrev GOX (p : Program) (l : Launch) (e : Env) (rm : Room) (s : State) (m : MethodId) (args : Array Value) (below : List Frame) (meth : Method) (c : Code) (A : Nat → Prop) (Qk : (Nat → Prop) → Array Value → State → Outcome → State → Prop) (XK : (Nat → Prop) → String → State → State → Prop) (H : Heap) (locs : List Loc) (g : JFrame) : Prop := W p l e rm s m args below meth c H locs 0 0 (vx_MQ below (Qk A) (XK A) args s 1 6 A) g
/-- the words of a throw of class 'cls', its class at ik, its constructor at ic -/
def TW (ik ic : Nat) (cls : String) : Prop := Bundle.fit cls = true ∧ Cond.classLink RX7 ik cls ∈ WG ∧ Cond.initialized cls ∈ WG ∧ (∀ w ∈ (vx_atS RX7 ic cls XNS).filter goodWord, w ∈ WG) ∧ (∀ w ∈ (vx_atS RX7 ic cls XNS).filter (fun w => !goodWord w), w ∈ XB cls) ∧ (∀ w ∈ XB cls, w ∈ NWL) ∧ (∀ w ∈ Cond.classLink RX7 ik cls :: Cond.initialized cls :: vx_atS RX7 ic cls XNS, vx_ot w = true)
theorem tw_1 : TW 46 50 "java/lang/IllegalArgumentException" := ⟨by decide +kernel, wg_of 288 (by decide +kernel) rfl, wg_of 33 (by decide +kernel) rfl, wg_all (by decide +kernel) (by decide +kernel), by decide +kernel, fun w hw => List.mem_filter.mpr ⟨(by decide +kernel : ∀ w ∈ XB "java/lang/IllegalArgumentException", w ∈ lw_tbl) w hw, (by decide +kernel : ∀ w ∈ XB "java/lang/IllegalArgumentException", isNest w = true) w hw⟩, by decide +kernel⟩
theorem tw_2 : TW 63 67 "java/lang/IllegalStateException" := ⟨by decide +kernel, wg_of 360 (by decide +kernel) rfl, wg_of 34 (by decide +kernel) rfl, wg_all (by decide +kernel) (by decide +kernel), by decide +kernel, fun w hw => List.mem_filter.mpr ⟨(by decide +kernel : ∀ w ∈ XB "java/lang/IllegalStateException", w ∈ lw_tbl) w hw, (by decide +kernel : ∀ w ∈ XB "java/lang/IllegalStateException", isNest w = true) w hw⟩, by decide +kernel⟩
theorem tw_3 : TW 137 141 "java/lang/IndexOutOfBoundsException" := ⟨by decide +kernel, wg_of 609 (by decide +kernel) rfl, wg_of 36 (by decide +kernel) rfl, wg_all (by decide +kernel) (by decide +kernel), by decide +kernel, fun w hw => List.mem_filter.mpr ⟨(by decide +kernel : ∀ w ∈ XB "java/lang/IndexOutOfBoundsException", w ∈ lw_tbl) w hw, (by decide +kernel : ∀ w ∈ XB "java/lang/IndexOutOfBoundsException", isNest w = true) w hw⟩, by decide +kernel⟩
theorem xns_fit : ∀ n ∈ XNS, Bundle.fit n = true := by decide +kernel
section FINX
variable {p : Program} {l : Launch} {e : Env} {R : Room} {s : State} {m : MethodId} {args : Array Value} {below : List Frame} {meth : Method} {c : Code} {H : Heap} {locs : List Loc}
variable {cc : ByteArray} {pc nL : Nat} {ls : Array Slot} {G : va_G} {kk : Nat → ClassId} {A : Nat → Prop} {wf : va_W}
theorem fin_ix {r v cd : Int32} {XK : String → State → State → Prop} (hx : p.tables.exec = Jvm.exec) (hb : c.code = cc) (hr : meth.sig.returnType = some .int) (hlocks : meth.locks = false) (hK : va_K G vwCl (TYS kk) s) (hP : va_P G vwCl wf H) (hD : va_D A wf) (hS : va_S A s.heap H locs) (e1 : r = v) (e0 : cd = 0) (hdg : decode cc pc = .ok (.ireturn, 1)) :
    W p l e R s m args below meth c H locs 0 0 (vx_MQ below (QIX G kk wf r cd A) XK args s 1 6 A) (F0 m pc ls [.int v]) :=
  vx_ret (W.widen (k := 1) (n := 6) (Nat.zero_le _) (Nat.zero_le _) (W.iret hx hb hr (fun t ht hW => ⟨⟨v, (), rfl, ⟨e1.symm, e0⟩, by rw [ht]; exact hP, va_K.moved hW.alike hK, hD⟩, hS.F ht⟩) hS.2.2 hdg hlocks))
theorem xk_of {cls : String} {cd k : Int32} {S : List Int32} (hK : va_K G vwCl (TYS kk) s) (hP : va_P G vwCl wf H) (hD : va_D A wf) (hS : va_S A s.heap H locs) (hk : cls = xn k ∧ k ∈ S) (e0 : cd = k) : ∀ t : State, s.vm.Alike t.vm → H.size ≤ t.heap.size → (∀ q : Nat, q < H.size → t.heap[q]? = H[q]?) → XKX G kk wf S cd A cls s t := by
  intro t hv hz hq
  refine ⟨(), by rw [e0]; exact hk.2, ⟨by rw [e0]; exact hk.1, ?_, va_K.moved hv hK, hD⟩, Nat.le_trans hS.1 hz, fun q h1 h2 => ?_⟩
  · intro i x hi
    exact (hP i x hi).kept (hq x.1 (hP i x hi).lt)
  · rw [hq q (Nat.lt_of_lt_of_le h1 hS.1)]
    exact hS.2.1 q h1 h2
theorem sr_at {U : State} (h : SR U) {k : Nat} {tx : String} (hq : (k, tx) ∈ STL) : ∃ a : Nat, vk_R "MeterRooms" k tx a U := h _ hq
theorem fin_x {cls tx : String} {ik ic is : Nat} {cd k : Int32} {S : List Int32} {Qc : Array Value → State → Outcome → State → Prop} (hst : l.stackTraces = false) (hx : p.tables.exec = Jvm.exec) (hb : c.code = cc) (hown : s.vm.findClass RX7 = some m.cls) (hts : ∀ w ∈ WG, w.before args s = true) (hlocks : meth.locks = false) (hE : ENV A s) (hK : va_K G vwCl (TYS kk) s) (hP : va_P G vwCl wf H) (hD : va_D A wf) (hS : va_S A s.heap H locs) (hl : ls.size = nL) (hml : c.maxLocals = nL) (hxt : ∀ x ∈ c.exceptionTable.toList, False) (tw : TW ik ic cls) (hq : (is, tx) ∈ STL) (hk : cls = xn k ∧ k ∈ S) (e0 : cd = k) (hf : 6 ≤ R.frames) (hlo : 82 ≤ R.locals) (hRc : 1 ≤ R.cells) (hRs : 6 ≤ R.slots)
    (d0 : decode cc pc = .ok (.new ik, 3)) (d3 : decode cc (pc + 3) = .ok (.dup, 1)) (d4 : decode cc (pc + 4) = .ok (.ldc is, 2)) (d6 : decode cc (pc + 6) = .ok (.invokespecial ic, 3)) (d9 : decode cc (pc + 9) = .ok (.athrow, 1)) :
    W p l e R s m args below meth c H locs 0 0 (vx_MQ below Qc (XKX G kk wf S cd A) args s 1 6 A) (F0 m pc ls []) := by
  obtain ⟨t1, t2, t3, t4, t5, t6, t7⟩ := tw
  obtain ⟨sa, hsa⟩ := sr_at hE.2.2.1 hq
  refine vx_throwS (own := RX7) (cls := cls) (text := tx) (names := XNS) (ik := ik) (is := is) (ic := ic) (sa := sa) (A := A) (rest := []) hx hb hst hown t1 xns_fit (hts _ t2) (hts _ t3) hsa ?_ t7 hE.2.1.2.2.1 hE.2.1.2.2.2 hS (hl.trans hml.symm) d0 d3 d4 d6 d9 (fun x hx9 => (hxt x hx9).elim) hf hlo hRc hRs hlocks (xk_of hK hP hD hS hk e0) hS.2.2 (Nat.le_refl _) (Nat.le_refl _)
  exact vx_hat (fun w hw => hts w (t4 w hw)) t5 (fun w hw => hE.1.use (t6 w hw) args)
theorem fin_xw {cls tx : String} {ik ic is : Nat} {cd k : Int32} {S : List Int32} {Qc : Array Value → State → Outcome → State → Prop} (hst : l.stackTraces = false) (hx : p.tables.exec = Jvm.exec) (hb : c.code = cc) (hown : s.vm.findClass RX7 = some m.cls) (hts : ∀ w ∈ WG, w.before args s = true) (hlocks : meth.locks = false) (hE : ENV A s) (hK : va_K G vwCl (TYS kk) s) (hP : va_P G vwCl wf H) (hD : va_D A wf) (hS : va_S A s.heap H locs) (hl : ls.size = nL) (hml : c.maxLocals = nL) (hxt : ∀ x ∈ c.exceptionTable.toList, False) (tw : TW ik ic cls) (hq : (is, tx) ∈ STL) (hk : cls = xn k ∧ k ∈ S) (e0 : cd = k) (hf : 6 ≤ R.frames) (hlo : 82 ≤ R.locals) (hRc : 1 ≤ R.cells) (hRs : 6 ≤ R.slots)
    (d0 : decode cc pc = .ok (.new ik, 3)) (d3 : decode cc (pc + 3) = .ok (.dup, 1)) (d4 : decode cc (pc + 4) = .ok (.ldc_w is, 3)) (d7 : decode cc (pc + 7) = .ok (.invokespecial ic, 3)) (d10 : decode cc (pc + 10) = .ok (.athrow, 1)) :
    W p l e R s m args below meth c H locs 0 0 (vx_MQ below Qc (XKX G kk wf S cd A) args s 1 6 A) (F0 m pc ls []) := by
  obtain ⟨t1, t2, t3, t4, t5, t6, t7⟩ := tw
  obtain ⟨sa, hsa⟩ := sr_at hE.2.2.1 hq
  refine vx_throwSW (own := RX7) (cls := cls) (text := tx) (names := XNS) (ik := ik) (is := is) (ic := ic) (sa := sa) (A := A) (rest := []) hx hb hst hown t1 xns_fit (hts _ t2) (hts _ t3) hsa ?_ t7 hE.2.1.2.2.1 hE.2.1.2.2.2 hS (hl.trans hml.symm) d0 d3 d4 d7 d10 (fun x hx9 => (hxt x hx9).elim) hf hlo hRc hRs hlocks (xk_of hK hP hD hS hk e0) hS.2.2 (Nat.le_refl _) (Nat.le_refl _)
  exact vx_hat (fun w hw => hts w (t4 w hw)) t5 (fun w hw => hE.1.use (t6 w hw) args)
end FINX
theorem st_48 : (48, "c is not 0 to 255") ∈ STL := List.mem_of_getElem? (i := 0) rfl
theorem st_65 : (65, "the text is full") ∈ STL := List.mem_of_getElem? (i := 1) rfl
theorem st_79 : (79, "the text is not a store") ∈ STL := List.mem_of_getElem? (i := 2) rfl
theorem st_128 : (128, "what is not 0 to 10") ∈ STL := List.mem_of_getElem? (i := 3) rfl
theorem st_139 : (139, "there is no such room") ∈ STL := List.mem_of_getElem? (i := 4) rfl
theorem st_142 : (142, "what is not 0 to 7") ∈ STL := List.mem_of_getElem? (i := 5) rfl
theorem st_160 : (160, "what is not 0 to 5") ∈ STL := List.mem_of_getElem? (i := 6) rfl
theorem st_173 : (173, "load, wish or bound is out of its range") ∈ STL := List.mem_of_getElem? (i := 7) rfl
theorem st_179 : (179, "there are 6 rooms") ∈ STL := List.mem_of_getElem? (i := 8) rfl
theorem st_190 : (190, "v is not -400 to 400") ∈ STL := List.mem_of_getElem? (i := 9) rfl
theorem st_201 : (201, "n is not 1 to 60") ∈ STL := List.mem_of_getElem? (i := 10) rfl
theorem st_209 : (209, "what or v is out of its range") ∈ STL := List.mem_of_getElem? (i := 11) rfl
theorem st_214 : (214, "no state is remembered") ∈ STL := List.mem_of_getElem? (i := 12) rfl
theorem st_231 : (231, "n is not 1 to 240, or what is not 0 to 4") ∈ STL := List.mem_of_getElem? (i := 13) rfl
theorem st_262 : (262, "n is not 1 to 3, or script has not 1 to 5 * n digits") ∈ STL := List.mem_of_getElem? (i := 14) rfl
theorem st_276 : (276, "m is not 1 to 60") ∈ STL := List.mem_of_getElem? (i := 15) rfl
theorem st_290 : (290, "there is no such save slot") ∈ STL := List.mem_of_getElem? (i := 16) rfl
theorem st_301 : (301, "nothing is saved in this slot") ∈ STL := List.mem_of_getElem? (i := 17) rfl
