/-! My own layer: one list of words for all methods, contracts by their result, calls that keep a world's order -/
abbrev vwCl : List vw_C := [(RX0, TX0, 2), (RX1, TX1, 7), (RX2, TX2, 10), (RX3, TX3, 6), (RX4, TX4, 2), (RX5, TX5, 11), (RX6, TX6, 2), (RX7, TX7, 7)]
def WG : List Cond := lw_tbl.filter goodWord
theorem wg_of {w : Cond} (i : Nat) (h : lw_tbl[i]? = some w) (g : goodWord w = true) : w ∈ WG := List.mem_filter.mpr ⟨List.mem_of_getElem? h, g⟩
theorem wg_in {w : Cond} (h : w ∈ tables_1) (g : goodWord w = true) : w ∈ WG := List.mem_filter.mpr ⟨List.mem_append_right _ h, g⟩
theorem wg_good {w : Cond} (h : w ∈ WG) : (w.onTables && w.keeps) = true ∨ ∃ ty, w = .arrayClass ty := good_of_word (List.mem_filter.mp h).2
theorem wg_goodIn {ws : List Cond} (h : ∀ w ∈ ws, w ∈ WG) : GoodIn WG ws := fun w hw => ⟨h w hw, wg_good (h w hw)⟩
theorem wg_all {ws : List Cond} (h : ∀ w ∈ ws, w ∈ lw_tbl) (g : ∀ w ∈ ws, goodWord w = true) : ∀ w ∈ ws, w ∈ WG := fun w hw => List.mem_filter.mpr ⟨h w hw, g w hw⟩
/-- words of nest mates, casts, declarations: they go on by laws of their own -/
def isNest : Cond → Bool
  | .fieldLinkNest .. => true
  | .methodLinkNest .. => true
  | .castable .. => true
  | .declares _ => true
  | _ => false
def NWL : List Cond := lw_tbl.filter isNest
theorem nw_of {w : Cond} (i : Nat) (h : lw_tbl[i]? = some w) (g : isNest w = true) : w ∈ NWL := List.mem_filter.mpr ⟨List.mem_of_getElem? h, g⟩
def NW (U : State) : Prop := ∀ w ∈ NWL, va_Nw w U
theorem NW.warm {s U : State} (hW : s.WarmedH U.vm) (h : NW s) : NW U := fun w hw => by
  have h1 := h w hw
  have h2 := (List.mem_filter.mp hw).2
  cases w <;> first | (simp [isNest] at h2; done) | exact va_Nw.warmF hW h1 | exact va_Nw.warmM hW h1 | exact va_Nw.warmC hW h1 | exact va_Nw.warmD hW h1
theorem NW.same {u U : State} (e : u.vm = U.vm) (h : NW u) : NW U := fun w hw => by
  have h1 := h w hw
  have h2 := (List.mem_filter.mp hw).2
  refine va_Nw.same ?_ e h1
  cases w <;> first | (simp [isNest] at h2; done) | rfl
theorem NW.use {U : State} (h : NW U) {w : Cond} (hw : w ∈ NWL) (args : Array Value) : w.before args U = true := by
  have h2 := (List.mem_filter.mp hw).2
  refine va_Nw.use ?_ (h w hw)
  cases w <;> first | (simp [isNest] at h2; done) | rfl
/-- the two tables of settings' ends -/
def lsF : Nat → Value := fun j => .int (if j < 3 then 0 else 1)
def msF : Nat → Value := fun j => .int (if j = 0 then 9999 else if j = 1 then 14 else if j = 2 then 99 else if j = 3 then 50 else if j = 4 then 100 else 30)
def ZS (A : Nat → Prop) (U : State) (H : Heap) : Prop :=
  (∃ t : Nat, va_Z "MeterRooms" "LEAST_SETTING" "[I" (.ref t) A U H ∧ va_T .int t 6 lsF A U H) ∧ (∃ t : Nat, va_Z "MeterRooms" "MOST_SETTING" "[I" (.ref t) A U H ∧ va_T .int t 6 msF A U H) ∧ vx_Zq Bundle.tN "UNASSIGNED_STACK" Bundle.steD A U H ∧ vx_Zq Bundle.tN "SUPPRESSED_SENTINEL" Bundle.listD A U H
theorem ZS.moved {A : Nat → Prop} {u U : State} {H : Heap} (hvm : u.vm.Alike U.vm) (h : ZS A u H) : ZS A U H := by
  obtain ⟨⟨t, a1, a2⟩, ⟨t2, a3, a4⟩, a5, a6⟩ := h
  exact ⟨⟨t, a1.moved hvm, a2.moved hvm⟩, ⟨t2, a3.moved hvm, a4.moved hvm⟩, a5.moved hvm, a6.moved hvm⟩
theorem ZS.kept {A : Nat → Prop} {U : State} {H H1 : Heap} (h : ZS A U H) (hq : ∀ a : Nat, a < H.size → ¬ A a → H1[a]? = H[a]?) : ZS A U H1 := by
  obtain ⟨⟨t, a1, a2⟩, ⟨t2, a3, a4⟩, a5, a6⟩ := h
  exact ⟨⟨t, a1.kept hq, a2.kept hq⟩, ⟨t2, a3.kept hq, a4.kept hq⟩, a5.kept hq, a6.kept hq⟩
theorem ZS.narrow {A B : Nat → Prop} {U : State} {H : Heap} (h : ZS A U H) (hq : ∀ q, B q → A q) : ZS B U H := by
  obtain ⟨⟨t, a1, a2⟩, ⟨t2, a3, a4⟩, a5, a6⟩ := h
  exact ⟨⟨t, a1.narrow hq, a2.narrow hq⟩, ⟨t2, a3.narrow hq, a4.narrow hq⟩, a5.narrow hq, a6.narrow hq⟩
/-- the strings of the throws -/
def STL : List (Nat × String) := [(48, "c is not 0 to 255"), (65, "the text is full"), (79, "the text is not a store"), (128, "what is not 0 to 10"), (139, "there is no such room"), (142, "what is not 0 to 7"), (160, "what is not 0 to 5"), (173, "load, wish or bound is out of its range"), (179, "there are 6 rooms"), (190, "v is not -400 to 400"), (201, "n is not 1 to 60"), (209, "what or v is out of its range"), (214, "no state is remembered"), (231, "n is not 1 to 240, or what is not 0 to 4"), (262, "n is not 1 to 3, or script has not 1 to 5 * n digits"), (276, "m is not 1 to 60"), (290, "there is no such save slot"), (301, "nothing is saved in this slot")]
def SR (U : State) : Prop := ∀ q ∈ STL, ∃ a : Nat, vk_R "MeterRooms" q.1 q.2 a U
theorem SR.warm {s U : State} (hW : s.WarmedH U.vm) (h : SR s) : SR U := fun q hq => by
  obtain ⟨a, ha⟩ := h q hq
  exact ⟨a, ha.warm hW⟩
theorem SR.same {u U : State} (e : U.vm = u.vm) (h : SR u) : SR U := fun q hq => by
  obtain ⟨a, ha⟩ := h q hq
  exact ⟨a, ha.same e⟩
def AO (U : State) : Prop := va_AO "MeterRooms$Room" U ∧ va_AO "MeterRooms$State" U
/-- what every method of the class stands on besides its cells -/
def ENV (A : Nat → Prop) (U : State) : Prop := NW U ∧ ZS A U U.heap ∧ SR U ∧ AO U
theorem ENV.go {A B : Nat → Prop} {s U : State} {H : Heap} {locs : List Loc} (h : ENV A s) (hS : va_S A s.heap H locs) (hAB : ∀ q, B q → A q) (hU : U.heap = H) (hW : s.WarmedH U.vm) : ENV B U := by
  obtain ⟨h1, h2, h3, h4⟩ := h
  refine ⟨h1.warm hW, ?_, h3.warm hW, ⟨h4.1.moved hW.alike, h4.2.moved hW.alike⟩⟩
  rw [hU]
  exact ((h2.kept hS.2.1).narrow hAB).moved hW.alike
theorem ENV.calling {A : Nat → Prop} {U : State} (h : ENV A U) (g : JFrame) (mk : MethodId) (a : Array Value) : ENV A (U.calling g mk a) := by
  obtain ⟨h1, h2, h3, h4⟩ := h
  exact ⟨NW.same (u := U) (U := U.calling g mk a) rfl h1, ZS.moved (U := U.calling g mk a) (Vm.Alike.refl U.vm) h2, SR.same (u := U) (U := U.calling g mk a) rfl h3, ⟨va_AO.moved (U := U.calling g mk a) (Vm.Alike.refl U.vm) h4.1, va_AO.moved (U := U.calling g mk a) (Vm.Alike.refl U.vm) h4.2⟩⟩
/-- the arrays' classes -/
def TYS (kk : Nat → ClassId) : List (ClassId × FieldType) := [(kk 0, .int), (kk 1, .char), (kk 0, .int), (kk 3, .object "MeterRooms$Room"), (kk 4, .object "MeterRooms$State")]
/-- a field's link out of class 'own' at 'index': field k of kind ci -/
def FL (own : String) (index ci k : Nat) (C : String) (T : u_T) (N : Nat) : Prop := vwCl[ci]? = some (C, T, N) ∧ k < N ∧ (∀ w ∈ u_ws C T N, w ∈ WG) ∧ Cond.fieldLink own index C (T k).2.1 (T k).2.2.1 ∈ WG ∧ (T k).1 = C
def FN (own : String) (index ci k : Nat) (C : String) (T : u_T) (N : Nat) (host : String) : Prop := vwCl[ci]? = some (C, T, N) ∧ k < N ∧ (∀ w ∈ u_ws C T N, w ∈ WG) ∧ Cond.fieldLinkNest own index C (T k).2.1 (T k).2.2.1 host ∈ NWL ∧ (T k).1 = C
/-- what a write asks of a field besides -/
def FW (ci k : Nat) (C : String) (T : u_T) (N : Nat) (ty0 : Nat → FieldType) (ty : FieldType) : Prop := (∀ k, k < N → parseFieldDescriptor (T k).2.2.1 = some (ty0 k)) ∧ (∀ a, a < N → ∀ b, b < N → a ≠ b → (T a).2.1 ≠ (T b).2.1) ∧ (T k).2.2.2 = false ∧ parseFieldDescriptor (T k).2.2.1 = some ty
/-- a virtual call's words, a static call's words -/
def VL (own : String) (index : Nat) (y : MethodName) (b : ByteArray) (n : Nat) (ret : Option FieldType) (np : Nat) : Prop := Cond.methodLink own index y ∈ WG ∧ Cond.instanceMethod y ∈ WG ∧ Cond.selects y.cls y y ∈ WG ∧ Cond.initialized y.cls ∈ WG ∧ Cond.code y b n ret ∈ WG ∧ (y.cls ≠ "java/lang/invoke/MethodHandle" ∧ y.cls ≠ "java/lang/invoke/VarHandle" ∧ (parseMethodDescriptor y.desc).map (fun d => d.parameters.length) = some np)
def SL (own : String) (index : Nat) (y : MethodName) (b : ByteArray) (n : Nat) (ret : Option FieldType) (np : Nat) : Prop := Cond.methodLink own index y ∈ WG ∧ Cond.static y ∈ WG ∧ Cond.initialized y.cls ∈ WG ∧ Cond.code y b n ret ∈ WG ∧ (y.cls ≠ "java/lang/invoke/MethodHandle" ∧ y.cls ≠ "java/lang/invoke/VarHandle" ∧ (parseMethodDescriptor y.desc).map (fun d => d.parameters.length) = some np)
/-- a world before a call and behind it -/
def mP (G : va_G) (kk : Nat → ClassId) (sz : Nat) (ws : va_W) : State → Prop := fun U => U.heap.size = sz ∧ va_P G vwCl ws U.heap ∧ va_K G vwCl (TYS kk) U ∧ va_D (fun _ => True) ws ∧ ENV (va_A ws sz) U
def mB (G : va_G) (kk : Nat → ClassId) (ws : va_W) (A : Nat → Prop) : State → Prop := fun t => va_P G vwCl ws t.heap ∧ va_K G vwCl (TYS kk) t ∧ va_D A ws
def QI (G : va_G) (kk : Nat → ClassId) (w1 : va_W) (r : Int32) (A : Nat → Prop) : Array Value → State → Outcome → State → Prop := va_Qi (S := Unit) (fun x _ => x = r) (fun _ t => mB G kk w1 A t) A
def QL (G : va_G) (kk : Nat → ClassId) (w1 : va_W) (r : Int64) (A : Nat → Prop) : Array Value → State → Outcome → State → Prop := va_Ql (S := Unit) (fun x _ => x = r) (fun _ t => mB G kk w1 A t) A
def QV (G : va_G) (kk : Nat → ClassId) (w1 : va_W) (A : Nat → Prop) : Array Value → State → Outcome → State → Prop := va_Qv (S := Unit) (fun _ => True) (fun _ t => mB G kk w1 A t) A
def QQ (G : va_G) (kk : Nat → ClassId) (w1 : va_W) (r : Option Nat) (A : Nat → Prop) : Array Value → State → Outcome → State → Prop := va_Qq (S := Unit) (fun x _ => x = r) (fun _ t => mB G kk w1 A t) A
/-- a contract: from the cells wc with the arguments 'as' the method comes to Qk -/
def CC (l : Launch) (y : MethodName) (b : ByteArray) (n : Nat) (ret : Option FieldType) (rm : Room) (as : List Value) (G : va_G) (kk : Nat → ClassId) (wc : va_W) (Qk : (Nat → Prop) → Array Value → State → Outcome → State → Prop) : Prop :=
  ∀ sz : Nat, Met l y (.code y b n ret :: WG) rm (va_Pc as (mP G kk sz wc)) (Qk (va_A wc sz)) 0 0 (va_A wc sz)
theorem cc_start {l : Launch} {y : MethodName} {b : ByteArray} {n : Nat} {ret : Option FieldType} {rm : Room} {as : List Value} {G : va_G} {kk : Nat → ClassId} {wc : va_W} {Qk : (Nat → Prop) → Array Value → State → Outcome → State → Prop} (hy : plainName y.cls = true) (hn : (lg_sl as).length ≤ n)
    (body : ∀ (p : Program) (e : Env) (s : State) (m : MethodId) (below : List Frame) (meth : Method) (c : Code) (A : Nat → Prop) (ls : Array Slot), p.tables.exec = Jvm.exec → c.code = b → meth.sig.returnType = ret → c.maxLocals = n → s.vm.findClass y.cls = some m.cls → (∀ w ∈ WG, w.before as.toArray s = true) → meth.locks = false → (∀ q : Nat, s.heap.size ≤ q → A q) → ENV A s → va_K G vwCl (TYS kk) s → va_P G vwCl wc s.heap → va_D A wc → va_S A s.heap s.heap [] → lv_has ls n (lv_args 0 as) →
      W p l e rm s m as.toArray below meth c s.heap [] 0 0 (MQ below (Qk A) as.toArray s 0 0 A) (F0 m 0 ls [])) : CC l y b n ret rm as G kk wc Qk := by
  intro sz
  refine Met.ofW (cc := b) (maxL := n) (ret := ret) hy rfl ?_
  intro p e s m args below meth c s₁ B hml hv
  obtain ⟨rfl, hsz, hP, hK, hD0, hE⟩ := hv
  have hts := atoms_spec (ws := .code y b n ret :: WG) B.pre
  subst hsz
  have hD := hD0.self (sz := s.heap.size)
  rw [lg_entry_eq]
  exact body p e s m below meth c _ _ B.exec B.bytes B.returns hml (findClass_of_methodNamed B.named) (fun w hw => hts w (List.mem_cons_of_mem _ hw)) B.notSynchronized (fun q h => Or.inr h) hE hK hP hD va_S.rf (lv_entry as hn)
section FIN
variable {p : Program} {l : Launch} {e : Env} {R : Room} {s : State} {m : MethodId} {args : Array Value} {below : List Frame} {meth : Method} {c : Code} {H : Heap} {locs : List Loc} {cells slots : Nat} {Q : State → Prop}
variable {cc : ByteArray} {pc : Nat} {ls : Array Slot} {rest : List Value} {G : va_G} {kk : Nat → ClassId} {A : Nat → Prop} {ws wf wc w1 : va_W}
theorem fin_i {r v : Int32} (hx : p.tables.exec = Jvm.exec) (hb : c.code = cc) (hr : meth.sig.returnType = some .int) (hlocks : meth.locks = false) (hK : va_K G vwCl (TYS kk) s) (hP : va_P G vwCl wf H) (hD : va_D A wf) (hS : va_S A s.heap H locs) (e1 : r = v) (hdg : decode cc pc = .ok (.ireturn, 1)) :
    W p l e R s m args below meth c H locs 0 0 (MQ below (QI G kk wf r A) args s 0 0 A) (F0 m pc ls [.int v]) :=
  W.iret hx hb hr (fun t ht hW => ⟨⟨v, (), rfl, e1.symm, by rw [ht]; exact hP, va_K.moved hW.alike hK, hD⟩, hS.F ht⟩) hS.2.2 hdg hlocks
theorem fin_z {r v : Int32} (hx : p.tables.exec = Jvm.exec) (hb : c.code = cc) (hr : meth.sig.returnType = some .boolean) (hlocks : meth.locks = false) (hK : va_K G vwCl (TYS kk) s) (hP : va_P G vwCl wf H) (hD : va_D A wf) (hS : va_S A s.heap H locs) (e1 : r = v) (hn : narrow .boolean (.int v) = .int v) (hdg : decode cc pc = .ok (.ireturn, 1)) :
    W p l e R s m args below meth c H locs 0 0 (MQ below (QI G kk wf r A) args s 0 0 A) (F0 m pc ls [.int v]) :=
  W.zret hx hb hr hn (fun t ht hW => ⟨⟨v, (), rfl, e1.symm, by rw [ht]; exact hP, va_K.moved hW.alike hK, hD⟩, hS.F ht⟩) hS.2.2 hdg hlocks
theorem fin_l {r v : Int64} (hx : p.tables.exec = Jvm.exec) (hb : c.code = cc) (hr : meth.sig.returnType = some .long) (hlocks : meth.locks = false) (hK : va_K G vwCl (TYS kk) s) (hP : va_P G vwCl wf H) (hD : va_D A wf) (hS : va_S A s.heap H locs) (e1 : r = v) (hdg : decode cc pc = .ok (.lreturn, 1)) :
    W p l e R s m args below meth c H locs 0 0 (MQ below (QL G kk wf r A) args s 0 0 A) (F0 m pc ls [.long v]) :=
  W.lret hx hb hr (fun t ht hW => ⟨⟨v, (), rfl, e1.symm, by rw [ht]; exact hP, va_K.moved hW.alike hK, hD⟩, hS.F ht⟩) hS.2.2 hdg hlocks
theorem fin_v (hx : p.tables.exec = Jvm.exec) (hb : c.code = cc) (hr : meth.sig.returnType = none) (hlocks : meth.locks = false) (hK : va_K G vwCl (TYS kk) s) (hP : va_P G vwCl wf H) (hD : va_D A wf) (hS : va_S A s.heap H locs) (hdg : decode cc pc = .ok (.return_, 1)) :
    W p l e R s m args below meth c H locs 0 0 (MQ below (QV G kk wf A) args s 0 0 A) (F0 m pc ls []) :=
  W.vret hx hb hr (fun t ht hW => ⟨⟨(), rfl, trivial, by rw [ht]; exact hP, va_K.moved hW.alike hK, hD⟩, hS.F ht⟩) hS.2.2 hdg hlocks
theorem fin_q {r v : Option Nat} {rt : String} (hx : p.tables.exec = Jvm.exec) (hb : c.code = cc) (hr : meth.sig.returnType = some (.object rt)) (hlocks : meth.locks = false) (hK : va_K G vwCl (TYS kk) s) (hP : va_P G vwCl wf H) (hD : va_D A wf) (hS : va_S A s.heap H locs) (e1 : r = v) (hdg : decode cc pc = .ok (.areturn, 1)) :
    W p l e R s m args below meth c H locs 0 0 (MQ below (QQ G kk wf r A) args s 0 0 A) (F0 m pc ls [va_rf v]) :=
  W.aret hx hb hr (Or.inl ⟨_, rfl⟩) (va_rf_or v) (fun t ht hW => ⟨⟨v, (), rfl, e1.symm, by rw [ht]; exact hP, va_K.moved hW.alike hK, hD⟩, hS.F ht⟩) hS.2.2 hdg hlocks
/-- the world, by an equation -/
theorem vP_eq {w w' : va_W} (h : w = w') (hP : va_P G vwCl w H) : va_P G vwCl w' H := h ▸ hP
theorem vD_eq {w w' : va_W} (h : w = w') (hD : va_D A w) : va_D A w' := h ▸ hD
-- fields
theorem r_get {own C : String} {T : u_T} {N ci index a k : Nat} {fs : List Value} {v : Value} (hx : p.tables.exec = Jvm.exec) (hb : c.code = cc) (hts : ∀ w ∈ WG, w.before args s = true) (hown : s.vm.findClass own = some m.cls) (hK : va_K G vwCl (TYS kk) s) (hP : va_P G vwCl ws H) (fl : FL own index ci k C T N) (q0 : Nat) (he : ws[q0]? = some (a, .inr (ci, fs))) (hv : fs[k]? = some v) (hdg : decode cc pc = .ok (.getfield index, 3))
    (kk1 : W p l e R s m args below meth c H locs cells slots Q (F0 m (pc + 3) ls (v :: rest))) : W p l e R s m args below meth c H locs cells slots Q (F0 m pc ls (.ref a :: rest)) :=
  va_get hx hb hts fl.2.2.1 hown hK hP q0 he fl.1 k fl.2.1 (hts _ fl.2.2.2.1) (fun x h9 => by rw [fl.2.2.2.2] at h9; exact h9) hv hdg kk1
theorem r_getN {own C host : String} {T : u_T} {N ci index a k : Nat} {fs : List Value} {v : Value} {AE : Nat → Prop} (hE : ENV AE s) (hx : p.tables.exec = Jvm.exec) (hb : c.code = cc) (hts : ∀ w ∈ WG, w.before args s = true) (hown : s.vm.findClass own = some m.cls) (hK : va_K G vwCl (TYS kk) s) (hP : va_P G vwCl ws H) (fl : FN own index ci k C T N host) (q0 : Nat) (he : ws[q0]? = some (a, .inr (ci, fs))) (hv : fs[k]? = some v) (hdg : decode cc pc = .ok (.getfield index, 3))
    (kk1 : W p l e R s m args below meth c H locs cells slots Q (F0 m (pc + 3) ls (v :: rest))) : W p l e R s m args below meth c H locs cells slots Q (F0 m pc ls (.ref a :: rest)) :=
  va_getN hx hb hts fl.2.2.1 hown hK hP q0 he fl.1 k fl.2.1 (hE.1.use fl.2.2.2.1 _) (fun x h9 => by rw [fl.2.2.2.2] at h9; exact h9) hv hdg kk1
theorem r_put {own C : String} {T : u_T} {N ci index a k : Nat} {fs : List Value} {v : Value} {ty0 : Nat → FieldType} {ty : FieldType} (hx : p.tables.exec = Jvm.exec) (hb : c.code = cc) (hts : ∀ w ∈ WG, w.before args s = true) (hown : s.vm.findClass own = some m.cls) (hK : va_K G vwCl (TYS kk) s) (hP : va_P G vwCl ws H) (hD : va_D A ws) {H0 : Heap} (hS : va_S A H0 H locs) (fl : FL own index ci k C T N) (fw : FW ci k C T N ty0 ty) (q0 : Nat) (he : ws[q0]? = some (a, .inr (ci, fs))) (hn : narrow ty v = v) (hfit : fits ty v = true) (hl : k < fs.length) (hdg : decode cc pc = .ok (.putfield index, 3))
    (kk1 : ∀ (H1 : Heap) (locs1 : List Loc), va_P G vwCl (ws.set q0 (a, .inr (ci, fs.set k v))) H1 → va_D A (ws.set q0 (a, .inr (ci, fs.set k v))) → va_S A H0 H1 locs1 → W p l e R s m args below meth c H1 locs1 cells slots Q (F0 m (pc + 3) ls rest)) : W p l e R s m args below meth c H locs cells slots Q (F0 m pc ls (v :: .ref a :: rest)) :=
  va_put hx hb hts fl.2.2.1 ty0 fw.1 fw.2.1 hown hK hP hD hS q0 he fl.1 k fl.2.1 (hts _ fl.2.2.2.1) (fun x h9 => by rw [fl.2.2.2.2] at h9; exact h9) fw.2.2.1 fw.2.2.2 hn hfit hl hdg kk1
theorem r_putN {own C host : String} {T : u_T} {N ci index a k : Nat} {fs : List Value} {v : Value} {ty0 : Nat → FieldType} {ty : FieldType} {AE : Nat → Prop} (hE : ENV AE s) (hx : p.tables.exec = Jvm.exec) (hb : c.code = cc) (hts : ∀ w ∈ WG, w.before args s = true) (hown : s.vm.findClass own = some m.cls) (hK : va_K G vwCl (TYS kk) s) (hP : va_P G vwCl ws H) (hD : va_D A ws) {H0 : Heap} (hS : va_S A H0 H locs) (fl : FN own index ci k C T N host) (fw : FW ci k C T N ty0 ty) (q0 : Nat) (he : ws[q0]? = some (a, .inr (ci, fs))) (hn : narrow ty v = v) (hfit : fits ty v = true) (hl : k < fs.length) (hdg : decode cc pc = .ok (.putfield index, 3))
    (kk1 : ∀ (H1 : Heap) (locs1 : List Loc), va_P G vwCl (ws.set q0 (a, .inr (ci, fs.set k v))) H1 → va_D A (ws.set q0 (a, .inr (ci, fs.set k v))) → va_S A H0 H1 locs1 → W p l e R s m args below meth c H1 locs1 cells slots Q (F0 m (pc + 3) ls rest)) : W p l e R s m args below meth c H locs cells slots Q (F0 m pc ls (v :: .ref a :: rest)) :=
  va_putN hx hb hts fl.2.2.1 ty0 fw.1 fw.2.1 hown hK hP hD hS q0 he fl.1 k fl.2.1 (hE.1.use fl.2.2.2.1 _) (fun x h9 => by rw [fl.2.2.2.2] at h9; exact h9) fw.2.2.1 fw.2.2.2 hn hfit hl hdg kk1
-- arrays, their places as numbers
theorem ix_in {i : Int32} {k n : Nat} (e1 : i = nI k) (h : k < n) (hn : n < 2 ^ 31) : vp_in i n := by rw [e1]; exact vp_in_nI h hn
theorem ix_cl {i : Int32} {k n : Nat} (e1 : i = nI k) (h : k < n) (hn : n < 2 ^ 31) : i.toNatClampNeg = k := by rw [e1]; exact nI_clamp (Nat.lt_trans h hn)
theorem r_iald {a n : Nat} {f : Nat → Int32} {i : Int32} (hx : p.tables.exec = Jvm.exec) (hb : c.code = cc) (hK : va_K G vwCl (TYS kk) s) (hP : va_P G vwCl ws H) (q0 : Nat) (ha : ws[q0]? = some (a, .inl (kk 0, n, .inl f))) (k : Nat) (e1 : i = nI k) (h : k < n) (hn : n < 2 ^ 31) (hdg : decode cc pc = .ok (.iaload, 1))
    (kk1 : W p l e R s m args below meth c H locs cells slots Q (F0 m (pc + 1) ls (.int (f k) :: rest))) : W p l e R s m args below meth c H locs cells slots Q (F0 m pc ls (.int i :: .ref a :: rest)) :=
  va_iald hx hb hK hP q0 0 ha rfl (ix_in e1 h hn) hdg (by rw [ix_cl e1 h hn]; exact kk1)
theorem r_cald {a n : Nat} {f : Nat → Int32} {i : Int32} (hx : p.tables.exec = Jvm.exec) (hb : c.code = cc) (hK : va_K G vwCl (TYS kk) s) (hP : va_P G vwCl ws H) (q0 : Nat) (ha : ws[q0]? = some (a, .inl (kk 1, n, .inl f))) (k : Nat) (e1 : i = nI k) (h : k < n) (hn : n < 2 ^ 31) (hdg : decode cc pc = .ok (.caload, 1))
    (kk1 : W p l e R s m args below meth c H locs cells slots Q (F0 m (pc + 1) ls (.int (f k) :: rest))) : W p l e R s m args below meth c H locs cells slots Q (F0 m pc ls (.int i :: .ref a :: rest)) :=
  va_cald hx hb hK hP q0 1 ha rfl (ix_in e1 h hn) hdg (by rw [ix_cl e1 h hn]; exact kk1)
theorem r_aald {a n : Nat} {f : Nat → Option Nat} {i : Int32} {C : String} (hx : p.tables.exec = Jvm.exec) (hb : c.code = cc) (hK : va_K G vwCl (TYS kk) s) (hP : va_P G vwCl ws H) (q0 t0 : Nat) (ha : ws[q0]? = some (a, .inl (kk t0, n, .inr (.inr (.inr (.inr f)))))) (ht : (TYS kk)[t0]? = some (kk t0, .object C)) (k g : Nat) (e1 : i = nI k) (h : k < n) (hn : n < 2 ^ 31) (hg : f k = some g) (hdg : decode cc pc = .ok (.aaload, 1))
    (kk1 : W p l e R s m args below meth c H locs cells slots Q (F0 m (pc + 1) ls (.ref g :: rest))) : W p l e R s m args below meth c H locs cells slots Q (F0 m pc ls (.int i :: .ref a :: rest)) :=
  va_aldq hx hb hK hP q0 t0 ha ht (ix_in e1 h hn) hdg (by rw [ix_cl e1 h hn, hg]; exact kk1)
theorem r_iast {a n : Nat} {f : Nat → Int32} {i x : Int32} {H0 : Heap} (hx : p.tables.exec = Jvm.exec) (hb : c.code = cc) (hK : va_K G vwCl (TYS kk) s) (hP : va_P G vwCl ws H) (hD : va_D A ws) (hS : va_S A H0 H locs) (q0 : Nat) (ha : ws[q0]? = some (a, .inl (kk 0, n, .inl f))) (k : Nat) (e1 : i = nI k) (h : k < n) (hn : n < 2 ^ 31) (hdg : decode cc pc = .ok (.iastore, 1))
    (kk1 : ∀ (H1 : Heap) (locs1 : List Loc), va_P G vwCl (ws.set q0 (a, .inl (kk 0, n, .inl (upd f k x)))) H1 → va_D A (ws.set q0 (a, .inl (kk 0, n, .inl (upd f k x)))) → va_S A H0 H1 locs1 → W p l e R s m args below meth c H1 locs1 cells slots Q (F0 m (pc + 1) ls rest)) : W p l e R s m args below meth c H locs cells slots Q (F0 m pc ls (.int x :: .int i :: .ref a :: rest)) :=
  va_iast hx hb hK hP hD hS q0 0 ha rfl (ix_in e1 h hn) hdg (by rw [ix_cl e1 h hn]; exact kk1)
theorem r_alen {a n t0 : Nat} {x : (Nat → Int32) ⊕ (Nat → Int64) ⊕ (Nat → UInt32) ⊕ (Nat → UInt64) ⊕ (Nat → Option Nat)} {ty : FieldType} (hx : p.tables.exec = Jvm.exec) (hb : c.code = cc) (hK : va_K G vwCl (TYS kk) s) (hP : va_P G vwCl ws H) (q0 : Nat) (ha : ws[q0]? = some (a, .inl (kk t0, n, x))) (ht : (TYS kk)[t0]? = some (kk t0, ty)) (hdg : decode cc pc = .ok (.arraylength, 1))
    (kk1 : W p l e R s m args below meth c H locs cells slots Q (F0 m (pc + 1) ls (.int (nI n) :: rest))) : W p l e R s m args below meth c H locs cells slots Q (F0 m pc ls (.ref a :: rest)) :=
  va_alen hx hb hK hP q0 t0 ha ht rfl hdg kk1
end FIN
/-- cells put back at their places -/
def setMany (ws : va_W) : List Nat → va_W → va_W
  | i :: is, x :: xs => setMany (ws.set i x) is xs
  | _, _ => ws
theorem setMany_at : ∀ (is : List Nat) (ws w1 : va_W) (k : Nat) (q : Nat × va_E), is.length = w1.length → (setMany ws is w1)[k]? = some q → (∃ j : Nat, is[j]? = some k ∧ w1[j]? = some q) ∨ (k ∉ is ∧ ws[k]? = some q)
  | [], ws, w1, k, q, _, h => Or.inr ⟨List.not_mem_nil, by simpa [setMany] using h⟩
  | i :: is, ws, [], k, q, hl, h => by simp at hl
  | i :: is, ws, x :: xs, k, q, hl, h => by
    have hl' : is.length = xs.length := by simpa using hl
    rcases setMany_at is (ws.set i x) xs k q hl' h with ⟨j, h1, h2⟩ | ⟨h1, h2⟩
    · exact Or.inl ⟨j + 1, by simpa using h1, by simpa using h2⟩
    · by_cases hk : k = i
      · subst hk
        have hlt : k < ws.length := by
          have := (List.getElem?_eq_some_iff.mp h2).1
          simpa using this
        rw [List.getElem?_set_self hlt] at h2
        exact Or.inl ⟨0, by simp, by simpa using h2⟩
      · rw [List.getElem?_set_ne (Ne.symm hk)] at h2
        exact Or.inr ⟨by simp [hk, h1], h2⟩
theorem keep_set {A0 : Nat → Prop} {D : va_G} {cl : List vw_C} {ws wc w1 : va_W} {H H1 : Heap} (hP : va_P D cl ws H) (hD : va_D A0 ws) (isC : List Nat) (hC : isC.map (fun i => ws[i]?) = wc.map some) (ha : w1.map (fun q => q.1) = wc.map (fun q => q.1))
    (hk : ∀ q : Nat, q < H.size → ¬ va_A wc H.size q → H1[q]? = H[q]?) (hP1 : va_P D cl w1 H1) : va_P D cl (setMany ws isC w1) H1 ∧ va_D A0 (setMany ws isC w1) := by
  have hlen : isC.length = w1.length := by
    have h1 := congrArg List.length hC
    have h2 := congrArg List.length ha
    simp at h1 h2
    omega
  have atC : ∀ (j k : Nat) (q : Nat × va_E), isC[j]? = some k → w1[j]? = some q → ∃ q0 : Nat × va_E, ws[k]? = some q0 ∧ q0.1 = q.1 := by
    intro j k q h1 h2
    have h3 : (isC.map (fun i => ws[i]?))[j]? = some (ws[k]?) := by rw [List.getElem?_map, h1]; rfl
    rw [hC, List.getElem?_map] at h3
    have h4 : (w1.map (fun q => q.1))[j]? = some q.1 := by rw [List.getElem?_map, h2]; rfl
    rw [ha, List.getElem?_map] at h4
    cases hw : wc[j]? with
    | none => rw [hw] at h4; cases h4
    | some q0 =>
      rw [hw] at h3 h4
      exact ⟨q0, (Option.some.inj h3).symm, Option.some.inj h4⟩
  have key : ∀ (k : Nat) (q : Nat × va_E), (setMany ws isC w1)[k]? = some q → ∃ q0 : Nat × va_E, ws[k]? = some q0 ∧ q0.1 = q.1 := by
    intro k q hq
    rcases setMany_at isC ws w1 k q hlen hq with ⟨j, h1, h2⟩ | ⟨-, h2⟩
    · exact atC j k q h1 h2
    · exact ⟨q, h2, rfl⟩
  refine ⟨fun k q hq => ?_, fun i j x y hi hj hxy => ?_, fun k q hq => ?_⟩
  · rcases setMany_at isC ws w1 k q hlen hq with ⟨j, h1, h2⟩ | ⟨h1, h2⟩
    · exact hP1 j q h2
    · have hlt := (hP k q h2).lt
      refine (hP k q h2).kept (hk q.1 hlt ?_)
      rintro (⟨j, e, h3⟩ | h3)
      · have h4 : (wc.map some)[j]? = some (some (q.1, e)) := by rw [List.getElem?_map, h3]; rfl
        rw [← hC, List.getElem?_map] at h4
        cases hi : isC[j]? with
        | none => rw [hi] at h4; cases h4
        | some i =>
          rw [hi] at h4
          have h5 : ws[i]? = some (q.1, e) := Option.some.inj h4
          have h6 := hD.1 k i q (q.1, e) h2 h5 rfl
          subst h6
          exact h1 (List.mem_of_getElem? hi)
      · omega
  · obtain ⟨x0, h1, h2⟩ := key i x hi
    obtain ⟨y0, h3, h4⟩ := key j y hj
    exact hD.1 i j x0 y0 h1 h3 (h2.trans (hxy.trans h4.symm))
  · obtain ⟨q0, h1, h2⟩ := key k q hq
    rw [← h2]
    exact hD.2 k q0 h1
theorem free_of {A0 : Nat → Prop} {ws wc : va_W} {H0 H : Heap} {locs : List Loc} (hD : va_D A0 ws) (hS : va_S A0 H0 H locs) (hA : ∀ q, H0.size ≤ q → A0 q) (isC : List Nat) (hC : isC.map (fun i => ws[i]?) = wc.map some) : ∀ q, va_A wc H.size q → A0 q := va_free hD hS hA isC hC
theorem sub_P {D : va_G} {cl : List vw_C} {ws wc : va_W} {H : Heap} (h : va_P D cl ws H) (isC : List Nat) (hC : isC.map (fun i => ws[i]?) = wc.map some) : va_P D cl wc H := by
  intro k q hk
  have h1 : (wc.map some)[k]? = some (some q) := by rw [List.getElem?_map, hk]; rfl
  rw [← hC, List.getElem?_map] at h1
  cases hi : isC[k]? with
  | none => rw [hi] at h1; cases h1
  | some i => rw [hi] at h1; exact h i q (Option.some.inj h1)
theorem blind_mP {as : List Value} {G : va_G} {kk : Nat → ClassId} {sz : Nat} {wc : va_W} : FrameBlind (va_Pc as (mP G kk sz wc)) := fun a U g mk q => by
  obtain ⟨q0, q1, qP, qK, qD, qE⟩ := q
  exact ⟨q0, q1, qP, va_K.moved (u := U) (U := U.calling g mk a) (Vm.Alike.refl U.vm) qK, qD, qE.calling g mk a⟩
section CALLS
variable {p : Program} {l : Launch} {e : Env} {R : Room} {s : State} {m : MethodId} {args : Array Value} {below : List Frame} {meth : Method} {c : Code} {H : Heap} {locs : List Loc} {cells slots : Nat} {Q : State → Prop}
variable {cc : ByteArray} {pc nL : Nat} {ls : Array Slot} {rest st0 : List Value} {G : va_G} {kk : Nat → ClassId} {A : Nat → Prop} {ws wc w1 : va_W} {own : String} {index a n ci q0 : Nat} {y : MethodName} {b : ByteArray} {ret : Option FieldType} {rm : Room} {As : List Value} {fs : List Value} {qc : vw_C} {H0 : Heap}
variable {Qk : (Nat → Prop) → Array Value → State → Outcome → State → Prop}
/-- what fits of the callee's room -/
def RF (rm R : Room) (n : Nat) : Prop := rm.frames + 1 ≤ R.frames ∧ 8 + (n + 11) + rm.locals ≤ R.locals ∧ rm.cells = 0 ∧ rm.slots = 0
theorem k_runV (hx : p.tables.exec = Jvm.exec) (hb : c.code = cc) (hml : c.maxLocals = nL) (hown : s.vm.findClass own = some m.cls) (hts : ∀ w ∈ WG, w.before args s = true) (hK : va_K G vwCl (TYS kk) s) (hP : va_P G vwCl ws H) (hD : va_D A ws) (hS : va_S A s.heap H locs) (hA : ∀ q : Nat, s.heap.size ≤ q → A q) (hE : ENV A s) (hl : ls.size = nL)
    (hc : CC l y b n ret rm (.ref a :: As) G kk wc Qk) (vl : VL own index y b n ret As.length) (hcl : vwCl[ci]? = some qc) (hcn : y.cls = qc.1) (he : wc[0]? = some (a, .inr (ci, fs))) (hrm : RF rm R n)
    (isC : List Nat) (hnd : va_nd isC = true) (hC : isC.map (fun i => ws[i]?) = wc.map some) (hcs : cells ≤ R.cells ∧ slots ≤ R.slots) (hst : st0 = As.reverse ++ .ref a :: rest) (hWr : (rest.map fun v => v.category).sum ≤ 8) (hdg : decode cc pc = .ok (.invokevirtual index, 3)) :
    va_Run p l e R s m args below meth c H locs cells slots 0 0 (F0 m pc ls st0) rest (Qk (va_A wc H.size) (Value.ref a :: As).toArray) (va_A wc H.size) := by
  subst hst
  obtain ⟨v1, v2, v3, v4, v5, v6, v7, v8⟩ := vl
  have hPc := sub_P hP isC hC
  have hDc := hD.sub isC hnd hC
  refine va_runV (Ts := WG) (C := y.cls) (ws := .code y b n ret :: WG) (rm := rm) (bytes := b) (maxL := n) (ret := ret) (n := As.length) (As := As) (rest := rest) (b := a) ⟨hx, hb, hml, hown, hts⟩ (hc H.size) ?_ ⟨blind_mP, ?_, fun U hU hW => ⟨rfl, by rw [hU], by rw [hU]; exact hPc, va_K.moved hW.alike hK, hDc.weaken (fun _ _ _ _ => trivial), hE.go hS (va_free hD hS hA isC hC) hU hW⟩⟩ rfl rfl hl rfl (lv_room hWr) hdg hcs
  · refine cwV (ws' := WG) As.length hts (wg_goodIn ?_) rfl hrm.2.2.1 hrm.2.2.2 ⟨rfl, v6, v7, v8⟩ ⟨hrm.1, hrm.2.1⟩
    intro w hw
    simp only [wsV, List.cons_append, List.nil_append, List.mem_cons] at hw
    rcases hw with rfl | rfl | rfl | rfl | rfl | hw
    · exact v1
    · exact v2
    · exact v3
    · exact v4
    · exact v5
    · exact hw
  · rw [hcn]
    exact va_recv hK hPc hcl he
theorem k_runS (hx : p.tables.exec = Jvm.exec) (hb : c.code = cc) (hml : c.maxLocals = nL) (hown : s.vm.findClass own = some m.cls) (hts : ∀ w ∈ WG, w.before args s = true) (hK : va_K G vwCl (TYS kk) s) (hP : va_P G vwCl ws H) (hD : va_D A ws) (hS : va_S A s.heap H locs) (hA : ∀ q : Nat, s.heap.size ≤ q → A q) (hE : ENV A s) (hl : ls.size = nL)
    (hc : CC l y b n ret rm As G kk wc Qk) (vl : SL own index y b n ret As.length) (hrm : RF rm R n)
    (isC : List Nat) (hnd : va_nd isC = true) (hC : isC.map (fun i => ws[i]?) = wc.map some) (hcs : cells ≤ R.cells ∧ slots ≤ R.slots) (hst : st0 = As.reverse ++ rest) (hWr : (rest.map fun v => v.category).sum ≤ 8) (hdg : decode cc pc = .ok (.invokestatic index, 3)) :
    va_Run p l e R s m args below meth c H locs cells slots 0 0 (F0 m pc ls st0) rest (Qk (va_A wc H.size) As.toArray) (va_A wc H.size) := by
  subst hst
  obtain ⟨v1, v2, v4, v5, v6, v7, v8⟩ := vl
  have hPc := sub_P hP isC hC
  have hDc := hD.sub isC hnd hC
  refine va_runS (Ts := WG) (ws := .code y b n ret :: WG) (rm := rm) (bytes := b) (maxL := n) (ret := ret) (n := As.length) (As := As) (rest := rest) ⟨hx, hb, hml, hown, hts⟩ (hc H.size) ?_ ⟨blind_mP, fun U hU hW => ⟨rfl, by rw [hU], by rw [hU]; exact hPc, va_K.moved hW.alike hK, hDc.weaken (fun _ _ _ _ => trivial), hE.go hS (va_free hD hS hA isC hC) hU hW⟩⟩ rfl rfl hl rfl (lv_room hWr) hdg hcs
  refine va_cwS (ws' := WG) As.length hts (wg_goodIn ?_) rfl hrm.2.2.1 hrm.2.2.2 ⟨v6, v7, v8⟩ ⟨hrm.1, hrm.2.1⟩
  intro w hw
  simp only [va_wsS, List.cons_append, List.nil_append, List.mem_cons] at hw
  rcases hw with rfl | rfl | rfl | rfl | hw
  · exact v1
  · exact v2
  · exact v4
  · exact v5
  · exact hw
theorem k_goI {r : Int32} {ar : Array Value} (hr : va_Run p l e R s m args below meth c H locs cells slots 0 0 (F0 m pc ls st0) rest (QI G kk w1 r (va_A wc H.size) ar) (va_A wc H.size)) (hP : va_P G vwCl ws H) (hD : va_D A ws) (hS : va_S A H0 H locs) (hA : ∀ q : Nat, H0.size ≤ q → A q) (isC : List Nat) (hC : isC.map (fun i => ws[i]?) = wc.map some) (ha : w1.map (fun q => q.1) = wc.map (fun q => q.1))
    (k : ∀ (H1 : Heap) (locs1 : List Loc), va_P G vwCl (setMany ws isC w1) H1 → va_D A (setMany ws isC w1) → va_S A H0 H1 locs1 → W p l e R s m args below meth c H1 locs1 cells slots Q (F0 m (pc + 3) ls (.int r :: rest))) : W p l e R s m args below meth c H locs cells slots Q (F0 m pc ls st0) := by
  have hF := va_free hD hS hA isC hC
  refine va_calli hr hS (fun q _ h => hF q h) hF (fun r1 u t H1 locs1 ht hvm hw hB hz hk hS1 => ?_)
  subst hw
  obtain ⟨hP1, -, -⟩ := hB
  rw [ht] at hP1
  obtain ⟨h1, h2⟩ := keep_set hP hD isC hC ha hk hP1
  exact k H1 locs1 h1 h2 hS1
theorem k_goL {r : Int64} {ar : Array Value} (hr : va_Run p l e R s m args below meth c H locs cells slots 0 0 (F0 m pc ls st0) rest (QL G kk w1 r (va_A wc H.size) ar) (va_A wc H.size)) (hP : va_P G vwCl ws H) (hD : va_D A ws) (hS : va_S A H0 H locs) (hA : ∀ q : Nat, H0.size ≤ q → A q) (isC : List Nat) (hC : isC.map (fun i => ws[i]?) = wc.map some) (ha : w1.map (fun q => q.1) = wc.map (fun q => q.1))
    (k : ∀ (H1 : Heap) (locs1 : List Loc), va_P G vwCl (setMany ws isC w1) H1 → va_D A (setMany ws isC w1) → va_S A H0 H1 locs1 → W p l e R s m args below meth c H1 locs1 cells slots Q (F0 m (pc + 3) ls (.long r :: rest))) : W p l e R s m args below meth c H locs cells slots Q (F0 m pc ls st0) := by
  have hF := va_free hD hS hA isC hC
  refine va_calll hr hS (fun q _ h => hF q h) hF (fun r1 u t H1 locs1 ht hvm hw hB hz hk hS1 => ?_)
  subst hw
  obtain ⟨hP1, -, -⟩ := hB
  rw [ht] at hP1
  obtain ⟨h1, h2⟩ := keep_set hP hD isC hC ha hk hP1
  exact k H1 locs1 h1 h2 hS1
theorem k_goQ {r : Option Nat} {ar : Array Value} (hr : va_Run p l e R s m args below meth c H locs cells slots 0 0 (F0 m pc ls st0) rest (QQ G kk w1 r (va_A wc H.size) ar) (va_A wc H.size)) (hP : va_P G vwCl ws H) (hD : va_D A ws) (hS : va_S A H0 H locs) (hA : ∀ q : Nat, H0.size ≤ q → A q) (isC : List Nat) (hC : isC.map (fun i => ws[i]?) = wc.map some) (ha : w1.map (fun q => q.1) = wc.map (fun q => q.1))
    (k : ∀ (H1 : Heap) (locs1 : List Loc), va_P G vwCl (setMany ws isC w1) H1 → va_D A (setMany ws isC w1) → va_S A H0 H1 locs1 → W p l e R s m args below meth c H1 locs1 cells slots Q (F0 m (pc + 3) ls (va_rf r :: rest))) : W p l e R s m args below meth c H locs cells slots Q (F0 m pc ls st0) := by
  have hF := va_free hD hS hA isC hC
  refine va_callq hr hS (fun q _ h => hF q h) hF (fun r1 u t H1 locs1 ht hvm hw hB hz hk hS1 => ?_)
  subst hw
  obtain ⟨hP1, -, -⟩ := hB
  rw [ht] at hP1
  obtain ⟨h1, h2⟩ := keep_set hP hD isC hC ha hk hP1
  exact k H1 locs1 h1 h2 hS1
theorem k_goV {ar : Array Value} (hr : va_Run p l e R s m args below meth c H locs cells slots 0 0 (F0 m pc ls st0) rest (QV G kk w1 (va_A wc H.size) ar) (va_A wc H.size)) (hP : va_P G vwCl ws H) (hD : va_D A ws) (hS : va_S A H0 H locs) (hA : ∀ q : Nat, H0.size ≤ q → A q) (isC : List Nat) (hC : isC.map (fun i => ws[i]?) = wc.map some) (ha : w1.map (fun q => q.1) = wc.map (fun q => q.1))
    (k : ∀ (H1 : Heap) (locs1 : List Loc), va_P G vwCl (setMany ws isC w1) H1 → va_D A (setMany ws isC w1) → va_S A H0 H1 locs1 → W p l e R s m args below meth c H1 locs1 cells slots Q (F0 m (pc + 3) ls rest)) : W p l e R s m args below meth c H locs cells slots Q (F0 m pc ls st0) := by
  have hF := va_free hD hS hA isC hC
  refine va_callv hr hS (fun q _ h => hF q h) hF (fun u t H1 locs1 ht hvm hw hB hz hk hS1 => ?_)
  obtain ⟨hP1, -, -⟩ := hB
  rw [ht] at hP1
  obtain ⟨h1, h2⟩ := keep_set hP hD isC hC ha hk hP1
  exact k H1 locs1 h1 h2 hS1
end CALLS
