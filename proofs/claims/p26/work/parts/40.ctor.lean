/-! Constructors: their contracts, their calls -/
def CI (l : Launch) (y : MethodName) (b : ByteArray) (n : Nat) (rm : Room) (as : List Value) (G : va_G) (kk : Nat → ClassId) (wc : va_W) (cs ss : Nat) (B : (Nat → Prop) → State → Prop) : Prop :=
  ∀ sz : Nat, Met l y (.code y b n none :: WG) rm (va_Pc as (mP G kk sz wc)) (va_Qv (S := Unit) (fun _ => True) (fun _ t => B (va_A wc sz) t) (va_A wc sz)) cs ss (va_A wc sz)
theorem ci_start {l : Launch} {y : MethodName} {b : ByteArray} {n cs ss : Nat} {rm : Room} {as : List Value} {G : va_G} {kk : Nat → ClassId} {wc : va_W} {B : (Nat → Prop) → State → Prop} (hy : plainName y.cls = true) (hn : (lg_sl as).length ≤ n) (hyn : y.name = "<init>")
    (body : ∀ (p : Program) (e : Env) (s : State) (m : MethodId) (below : List Frame) (meth : Method) (c : Code) (A : Nat → Prop) (ls : Array Slot), p.tables.exec = Jvm.exec → c.code = b → meth.sig.returnType = none → c.maxLocals = n → s.vm.findClass y.cls = some m.cls → (∀ w ∈ WG, w.before as.toArray s = true) → meth.locks = false → (∀ q : Nat, s.heap.size ≤ q → A q) → ENV A s → va_K G vwCl (TYS kk) s → va_P G vwCl wc s.heap → va_D A wc → va_S A s.heap s.heap [] → lv_has ls n (lv_args 0 as) → meth.name = "<init>" →
      W p l e rm s m as.toArray below meth c s.heap [] 0 0 (MQ below (va_Qv (S := Unit) (fun _ => True) (fun _ t => B A t) A) as.toArray s cs ss A) (F0 m 0 ls [])) : CI l y b n rm as G kk wc cs ss B := by
  intro sz
  refine Met.ofW (cc := b) (maxL := n) (ret := none) hy rfl ?_
  intro p e s m args below meth c s₁ B9 hml hv
  obtain ⟨rfl, hsz, hP, hK, hD0, hE⟩ := hv
  have hts := atoms_spec (ws := .code y b n none :: WG) B9.pre
  subst hsz
  have hD := hD0.self (sz := s.heap.size)
  rw [lg_entry_eq]
  exact body p e s m below meth c _ _ B9.exec B9.bytes B9.returns hml (findClass_of_methodNamed B9.named) (fun w hw => hts w (List.mem_cons_of_mem _ hw)) B9.notSynchronized (fun q h => Or.inr h) hE hK hP hD va_S.rf (lv_entry as hn) ((name_of_methodNamed B9.named B9.method).1.trans hyn)
def IL (own : String) (index : Nat) (y : MethodName) (b : ByteArray) (n np : Nat) : Prop := Cond.methodLink own index y ∈ WG ∧ Cond.instanceMethod y ∈ WG ∧ Cond.initialized y.cls ∈ WG ∧ Cond.code y b n none ∈ WG ∧ y.name = "<init>" ∧ (y.cls ≠ "java/lang/invoke/MethodHandle" ∧ y.cls ≠ "java/lang/invoke/VarHandle" ∧ (parseMethodDescriptor y.desc).map (fun d => d.parameters.length) = some np)
/-- the words of 'new C' -/
def NL (own : String) (index : Nat) (C : String) (N : Nat) : Prop := Cond.classLink own index C ∈ WG ∧ Cond.instantiable C N ∈ WG ∧ Cond.initialized C ∈ WG
/-- Object's constructor -/
def OL (own : String) (index : Nat) : Prop := Cond.methodLink own index Lib.objectInit ∈ WG ∧ Cond.instanceMethod Lib.objectInit ∈ WG ∧ Cond.code Lib.objectInit ⟨#[0xb1]⟩ 1 none ∈ WG
/-- a final field that a constructor writes -/
def FF (own : String) (index ci k : Nat) (C : String) (T : u_T) (N : Nat) (ty0 : Nat → FieldType) (ty : FieldType) : Prop := FL own index ci k C T N ∧ (∀ k, k < N → parseFieldDescriptor (T k).2.2.1 = some (ty0 k)) ∧ (∀ a, a < N → ∀ b, b < N → a ≠ b → (T a).2.1 ≠ (T b).2.1) ∧ (T k).2.2.2 = true ∧ parseFieldDescriptor (T k).2.2.1 = some ty ∧ (T k).1 = own
abbrev rmI (f n cs ss : Nat) : Room := { frames := f, cells := cs, slots := ss, locals := n }
theorem ra_eq {s : State} {c1 c2 : ClassId} {ty : FieldType} (h1 : va_RA s c1 ty) (h2 : va_RA s c2 ty) : c1 = c2 := by
  cases ty with
  | object C =>
    obtain ⟨-, -, -, -, -, a⟩ := h1
    obtain ⟨-, -, -, -, -, b⟩ := h2
    exact Option.some.inj (a.symm.trans b)
  | _ => exact Option.some.inj (Eq.trans (Eq.symm h1) h2)
theorem ka_eq {G : va_G} {kk : Nat → ClassId} {s : State} {cA : ClassId} {ty : FieldType} (t : Nat) (hK : va_K G vwCl (TYS kk ++ [(cA, ty)]) s) (ht : (TYS kk)[t]? = some (kk t, ty)) : cA = kk t := by
  have hl := (List.getElem?_eq_some_iff.mp ht).1
  refine ra_eq (hK.2 (TYS kk).length (cA, ty) ?_).2 (hK.2 t (kk t, ty) ?_).2
  · rw [List.getElem?_append_right (Nat.le_refl _), Nat.sub_self]; rfl
  · rw [List.getElem?_append_left hl]; exact ht
theorem arrV_same {c : ClassId} {n : Nat} {f g : Nat → Value} (h : ∀ j, j < n → f j = g j) : arrV c n f = arrV c n g := by
  unfold arrV
  congr 1
  apply Array.ext
  · simp
  · intro i h1 h2
    have hi : i < n := by simpa using h1
    simp [h i hi]
theorem arr_same {G : va_G} {ws : va_W} {H : Heap} {k a n : Nat} {c : ClassId} {f g : Nat → Option Nat} (hP : va_P G vwCl ws H) (hk : ws[k]? = some (a, .inl (c, n, .inr (.inr (.inr (.inr f)))))) (h : ∀ j, j < n → f j = g j) : va_P G vwCl (ws.set k (a, .inl (c, n, .inr (.inr (.inr (.inr g)))))) H := by
  have hl := (List.getElem?_eq_some_iff.mp hk).1
  intro j q hq
  by_cases hj : k = j
  · subst hj
    rw [List.getElem?_set_self hl] at hq
    cases hq
    have h1 := hP k _ hk
    show H[a]? = some (vp_cell c (n, .inr (.inr (.inr (.inr g)))))
    rw [vp_cell_q, ← arrV_same (c := c) (n := n) (f := fun j => va_rf (f j)) (g := fun j => va_rf (g j)) (fun j hj => by rw [h j hj])]
    exact h1
  · rw [List.getElem?_set_ne hj] at hq
    exact hP j q hq
section CALLI
variable {p : Program} {l : Launch} {e : Env} {R : Room} {s : State} {m : MethodId} {args : Array Value} {below : List Frame} {meth : Method} {c : Code} {H : Heap} {locs : List Loc} {cells slots mc ms : Nat} {Q : State → Prop}
variable {cc : ByteArray} {pc nL : Nat} {ls : Array Slot} {rest st0 : List Value} {G : va_G} {kk : Nat → ClassId} {A : Nat → Prop} {ws w0 : va_W} {own : String} {index a n : Nat} {y : MethodName} {b : ByteArray} {rm : Room} {As : List Value} {x : va_E} {H0 : Heap} {B : (Nat → Prop) → State → Prop}
theorem last_C {k : Nat} (hk : w0.length = k) : [k].map (fun i => (w0 ++ [(a, x)])[i]?) = ([(a, x)] : va_W).map some := by
  subst hk
  simp
/-- the constructor of the object that was made last -/
theorem k_ctor (hx : p.tables.exec = Jvm.exec) (hb : c.code = cc) (hml : c.maxLocals = nL) (hown : s.vm.findClass own = some m.cls) (hts : ∀ w ∈ WG, w.before args s = true) (hK : va_K G vwCl (TYS kk) s) (hP : va_P G vwCl (w0 ++ [(a, x)]) H) (hD : va_D A (w0 ++ [(a, x)])) (hS : va_S A s.heap H locs) (hA : ∀ q : Nat, s.heap.size ≤ q → A q) (hE : ENV A s) (hl : ls.size = nL)
    (hc : CI l y b n rm (.ref a :: As) G kk [(a, x)] mc ms B) (il : IL own index y b n As.length) (hrm : rm.frames + 1 ≤ R.frames ∧ 8 + (n + 11) + rm.locals ≤ R.locals ∧ rm.cells = mc ∧ rm.slots = ms)
    (k : Nat) (hk : w0.length = k) (hcs : cells + mc ≤ R.cells ∧ slots + ms ≤ R.slots) (hst : st0 = As.reverse ++ .ref a :: rest) (hWr : (rest.map fun v => v.category).sum ≤ 8) (hdg : decode cc pc = .ok (.invokespecial index, 3))
    (kk1 : ∀ (H1 : Heap) (locs1 : List Loc) (t : State), t.heap = H1 → B (va_A [(a, x)] H.size) t → (∀ w1 : va_W, va_P G vwCl w1 H1 → va_D (va_A [(a, x)] H.size) w1 → va_P G vwCl (w0 ++ w1) H1 ∧ va_D A (w0 ++ w1)) → va_S A s.heap H1 locs1 → W p l e R s m args below meth c H1 locs1 (cells + mc) (slots + ms) Q (F0 m (pc + 3) ls rest)) : W p l e R s m args below meth c H locs cells slots Q (F0 m pc ls st0) := by
  subst hst
  obtain ⟨v1, v2, v4, v5, vn, v6, v7, v8⟩ := il
  have hC := last_C (a := a) (x := x) hk
  have hR : (List.range' 0 k).map (fun i => (w0 ++ [(a, x)])[i]?) = w0.map some := sg_C hk
  have hPc := sub_P hP [k] hC
  have hDc := hD.sub [k] rfl hC
  have hF := va_free hD hS hA [k] hC
  refine va_callv (va_runI (Ts := WG) (ws := .code y b n none :: WG) (rm := rm) (bytes := b) (maxL := n) (n := As.length) (As := As) (rest := rest) (b := a) ⟨hx, hb, hml, hown, hts⟩ (hc H.size) ?_ ⟨blind_mP, fun U hU hW => ⟨rfl, by rw [hU], by rw [hU]; exact hPc, va_K.moved hW.alike hK, hDc.weaken (fun _ _ _ _ => trivial), hE.go hS hF hU hW⟩⟩ rfl rfl hl rfl (lv_room hWr) hdg hcs) hS (fun q _ h => hF q h) hF (fun u t H1 locs1 ht hvm hw hB hz hk1 hS1 => ?_)
  · refine cwI (ws' := WG) As.length hts (wg_goodIn ?_) rfl hrm.2.2.1 hrm.2.2.2 (hts _ v4) (hts _ v1) (hts _ v2) vn ⟨v6, v7, v8⟩ ⟨hrm.1, hrm.2.1⟩
    intro w hw
    rcases List.mem_cons.mp hw with rfl | hw
    · exact v5
    · exact hw
  · refine kk1 H1 locs1 t ht hB (fun w1 hP1 hD1 => ?_) hS1
    refine va_join hP hD [k] (List.range' 0 k) hC hR (nd_range k 0) (fun i hi hi2 => ?_) hk1 hF hP1 hD1
    have h1 : i = k := by simpa using hi2
    have h2 := List.mem_range'_1.mp hi
    omega
theorem r_new {C : String} {T : u_T} {N ci : Nat} {fs : List Value} {ty : Nat → FieldType} (hx : p.tables.exec = Jvm.exec) (hb : c.code = cc) (hts : ∀ w ∈ WG, w.before args s = true) (hin : ∀ w ∈ u_ws C T N, w ∈ WG) (hty : ∀ k, k < N → parseFieldDescriptor (T k).2.2.1 = some (ty k)) (hown : s.vm.findClass own = some m.cls) (nl : NL own index C N) (hK : va_K G vwCl (TYS kk) s) (hP : va_P G vwCl ws H) (hD : va_D A ws) (hS : va_S A H0 H locs) (hA : ∀ q : Nat, H0.size ≤ q → A q) (hc : vwCl[ci]? = some (C, T, N)) (hfs : ∀ j, j < N → defaultValue (ty j) = vp_V fs j) (hcells : cells + 1 ≤ R.cells) (hslots : slots + N ≤ R.slots) (hdg : decode cc pc = .ok (.new index, 3))
    (kk1 : ∀ (q : Nat) (H1 : Heap), va_P G vwCl (ws ++ [(q, .inr (ci, fs))]) H1 → va_D A (ws ++ [(q, .inr (ci, fs))]) → va_S A H0 H1 locs → W p l e R s m args below meth c H1 locs (cells + 1) (slots + N) Q (F0 m (pc + 3) ls (.ref q :: rest))) : W p l e R s m args below meth c H locs cells slots Q (F0 m pc ls rest) :=
  va_new hx hb hts hin ty hty hown (hts _ nl.1) (hts _ nl.2.1) (hts _ nl.2.2) hK hP hD hS hA hc hfs hcells hslots hdg kk1
theorem r_obj (hx : p.tables.exec = Jvm.exec) (hb : c.code = cc) (hml : c.maxLocals = nL) (hl : ls.size = nL) (hown : s.vm.findClass own = some m.cls) (hts : ∀ w ∈ WG, w.before args s = true) (ol : OL own index) (hd : decode cc pc = .ok (.invokespecial index, 3)) (hf : 1 ≤ R.frames) (hlo : (rest.map fun v => v.category).sum + 12 ≤ R.locals)
    (kk1 : W p l e R s m args below meth c H locs cells slots Q (F0 m (pc + 3) ls rest)) : W p l e R s m args below meth c H locs cells slots Q (F0 m pc ls (.ref a :: rest)) :=
  W.objInit hx hb hown (hts _ ol.1) (hts _ ol.2.1) (hts _ ol.2.2) rfl (by rw [hml]; exact hl) rfl hd hf (by show 2 * 0 + _ + 12 ≤ _; omega) (W.eq (g2 := F0 m (pc + 3) ls rest) rfl kk1)
theorem r_putF {C : String} {T : u_T} {N ci k : Nat} {ty0 : Nat → FieldType} {ty : FieldType} {fs : List Value} {v : Value} (hx : p.tables.exec = Jvm.exec) (hb : c.code = cc) (hts : ∀ w ∈ WG, w.before args s = true) (hown : s.vm.findClass own = some m.cls) (hK : va_K G vwCl (TYS kk) s) (hP : va_P G vwCl ws H) (hD : va_D A ws) (hS : va_S A H0 H locs) (ff : FF own index ci k C T N ty0 ty) (hin2 : meth.name = "<init>") (q0 : Nat) (he : ws[q0]? = some (a, .inr (ci, fs))) (hn : narrow ty v = v) (hfit : fits ty v = true) (hl : k < fs.length) (hdg : decode cc pc = .ok (.putfield index, 3))
    (kk1 : ∀ (H1 : Heap) (locs1 : List Loc), va_P G vwCl (ws.set q0 (a, .inr (ci, fs.set k v))) H1 → va_D A (ws.set q0 (a, .inr (ci, fs.set k v))) → va_S A H0 H1 locs1 → W p l e R s m args below meth c H1 locs1 cells slots Q (F0 m (pc + 3) ls rest)) : W p l e R s m args below meth c H locs cells slots Q (F0 m pc ls (v :: .ref a :: rest)) :=
  va_putF hx hb hts ff.1.2.2.1 ty0 ff.2.1 ff.2.2.1 hown hK hP hD hS q0 he ff.1.1 k ff.1.2.1 (hts _ ff.1.2.2.2.1) (fun x h9 => by rw [ff.1.2.2.2.2] at h9; exact h9) ff.2.2.2.1 hin2 ff.2.2.2.2.2 ff.2.2.2.2.1 hn hfit hl hdg kk1
theorem r_newa {atype : ArrayType} {ty : FieldType} {i : Int32} {N' t : Nat} {a0 : vp_A} (hx : p.tables.exec = Jvm.exec) (hb : c.code = cc) (hts : ∀ w ∈ WG, w.before args s = true) (harr : Cond.arrayClass (newarray.typeOf atype) ∈ WG) (hty : newarray.typeOf atype = ty) (hK : va_K G vwCl (TYS kk) s) (hP : va_P G vwCl ws H) (hD : va_D A ws) (hS : va_S A H0 H locs) (hA : ∀ q, H0.size ≤ q → A q) (ht : (TYS kk)[t]? = some (kk t, ty)) (ha : ∀ cA : ClassId, vp_cell cA a0 = arrV cA N' (fun _ => defaultValue ty)) (hn : ¬ i < 0) (hN : i.toNatClampNeg = N') (hbytes : N' * componentBytes ty ≤ 536870912) (hcells : cells + 1 ≤ R.cells) (hslots : slots + N' ≤ R.slots) (hdg : decode cc pc = .ok (.newarray atype, 2))
    (kk1 : ∀ (q : Nat) (H1 : Heap), va_P G vwCl (ws ++ [(q, .inl (kk t, a0))]) H1 → va_D A (ws ++ [(q, .inl (kk t, a0))]) → va_S A H0 H1 locs → W p l e R s m args below meth c H1 locs (cells + 1) (slots + N') Q (F0 m (pc + 2) ls (.ref q :: rest))) : W p l e R s m args below meth c H locs cells slots Q (F0 m pc ls (.int i :: rest)) :=
  va_newa hx hb (atype := atype) (hts _ harr) hty hK hP hD hS hA ha hn hN hbytes hcells hslots hdg (fun q cA H1 hK1 hP1 hD1 hS1 => by
    have e := ka_eq t hK1 ht
    subst e
    exact kk1 q H1 hP1 hD1 hS1)
theorem r_newq {C : String} {i : Int32} {N' t : Nat} (hx : p.tables.exec = Jvm.exec) (hb : c.code = cc) (hts : ∀ w ∈ WG, w.before args s = true) (hown : s.vm.findClass own = some m.cls) (hcl : Cond.classLink own index C ∈ WG) (hover : va_AO C s) (hK : va_K G vwCl (TYS kk) s) (hP : va_P G vwCl ws H) (hD : va_D A ws) (hS : va_S A H0 H locs) (hA : ∀ q, H0.size ≤ q → A q) (ht : (TYS kk)[t]? = some (kk t, .object C)) (hn : ¬ i < 0) (hN : i.toNatClampNeg = N') (hbytes : N' * 4 ≤ 536870912) (hcells : cells + 1 ≤ R.cells) (hslots : slots + N' ≤ R.slots) (hdg : decode cc pc = .ok (.anewarray index, 3))
    (kk1 : ∀ (q : Nat) (H1 : Heap), va_P G vwCl (ws ++ [(q, .inl (kk t, N', .inr (.inr (.inr (.inr (fun _ => none))))))]) H1 → va_D A (ws ++ [(q, .inl (kk t, N', .inr (.inr (.inr (.inr (fun _ => none))))))]) → va_S A H0 H1 locs → W p l e R s m args below meth c H1 locs (cells + 1) (slots + N') Q (F0 m (pc + 3) ls (.ref q :: rest))) : W p l e R s m args below meth c H locs cells slots Q (F0 m pc ls (.int i :: rest)) :=
  va_newq hx hb hown (hts _ hcl) hover hK hP hD hS hA hn hN hbytes hcells hslots hdg (fun q cA H1 hK1 hP1 hD1 hS1 => by
    have e := ka_eq t hK1 ht
    subst e
    exact kk1 q H1 hP1 hD1 hS1)
theorem fin_c (hx : p.tables.exec = Jvm.exec) (hb : c.code = cc) (hr : meth.sig.returnType = none) (hlocks : meth.locks = false) (hS : va_S A s.heap H locs) (hB : ∀ t : State, t.heap = H → s.vm.Alike t.vm → B A t) (hdg : decode cc pc = .ok (.return_, 1)) :
    W p l e R s m args below meth c H locs cells slots (MQ below (va_Qv (S := Unit) (fun _ => True) (fun _ t => B A t) A) args s cells slots A) (F0 m pc ls []) :=
  W.vret hx hb hr (fun t ht hW => ⟨⟨(), rfl, trivial, hB t ht hW.alike⟩, hS.F ht⟩) hS.2.2 hdg hlocks
end CALLI
theorem ol_X7_1 : OL RX7 1 := ⟨wg_of 42 (by decide +kernel) rfl, wg_of 43 (by decide +kernel) rfl, wg_of 44 (by decide +kernel) rfl⟩
theorem il_X7_9 : IL RX7 9 yX1_init cX1_init 1 0 := ⟨wg_of 47 (by decide +kernel) rfl, wg_of 48 (by decide +kernel) rfl, wg_of 23 (by decide +kernel) rfl, wg_of 49 (by decide +kernel) rfl, rfl, by decide +kernel⟩
theorem il_X7_18 : IL RX7 18 yX5_init cX5_init 2 0 := ⟨wg_of 94 (by decide +kernel) rfl, wg_of 95 (by decide +kernel) rfl, wg_of 25 (by decide +kernel) rfl, wg_of 96 (by decide +kernel) rfl, rfl, by decide +kernel⟩
theorem il_X7_31 : IL RX7 31 yX0_init cX0_init 2 0 := ⟨wg_of 222 (by decide +kernel) rfl, wg_of 223 (by decide +kernel) rfl, wg_of 28 (by decide +kernel) rfl, wg_of 224 (by decide +kernel) rfl, rfl, by decide +kernel⟩
theorem il_X7_38 : IL RX7 38 yX4_init cX4_init 1 0 := ⟨wg_of 239 (by decide +kernel) rfl, wg_of 240 (by decide +kernel) rfl, wg_of 29 (by decide +kernel) rfl, wg_of 241 (by decide +kernel) rfl, rfl, by decide +kernel⟩
theorem ol_X0_3 : OL RX0 3 := ⟨wg_of 225 (by decide +kernel) rfl, wg_of 43 (by decide +kernel) rfl, wg_of 44 (by decide +kernel) rfl⟩
theorem il_X0_17 : IL RX0 17 yX5_init cX5_init 2 0 := ⟨wg_of 228 (by decide +kernel) rfl, wg_of 95 (by decide +kernel) rfl, wg_of 25 (by decide +kernel) rfl, wg_of 96 (by decide +kernel) rfl, rfl, by decide +kernel⟩
theorem ol_X1_3 : OL RX1 3 := ⟨wg_of 50 (by decide +kernel) rfl, wg_of 43 (by decide +kernel) rfl, wg_of 44 (by decide +kernel) rfl⟩
theorem il_X1_11 : IL RX1 11 yX6_init cX6_init 1 0 := ⟨wg_of 53 (by decide +kernel) rfl, wg_of 54 (by decide +kernel) rfl, wg_of 24 (by decide +kernel) rfl, wg_of 55 (by decide +kernel) rfl, rfl, by decide +kernel⟩
theorem ol_X2_3 : OL RX2 3 := ⟨wg_of 135 (by decide +kernel) rfl, wg_of 43 (by decide +kernel) rfl, wg_of 44 (by decide +kernel) rfl⟩
theorem ol_X3_1 : OL RX3 1 := ⟨wg_of 103 (by decide +kernel) rfl, wg_of 43 (by decide +kernel) rfl, wg_of 44 (by decide +kernel) rfl⟩
theorem ol_X4_1 : OL RX4 1 := ⟨wg_of 242 (by decide +kernel) rfl, wg_of 43 (by decide +kernel) rfl, wg_of 44 (by decide +kernel) rfl⟩
theorem il_X4_9 : IL RX4 9 yX5_init cX5_init 2 0 := ⟨wg_of 244 (by decide +kernel) rfl, wg_of 95 (by decide +kernel) rfl, wg_of 25 (by decide +kernel) rfl, wg_of 96 (by decide +kernel) rfl, rfl, by decide +kernel⟩
theorem ol_X5_3 : OL RX5 3 := ⟨wg_of 97 (by decide +kernel) rfl, wg_of 43 (by decide +kernel) rfl, wg_of 44 (by decide +kernel) rfl⟩
theorem il_X5_24 : IL RX5 24 yX2_init cX2_init 2 1 := ⟨wg_of 132 (by decide +kernel) rfl, wg_of 133 (by decide +kernel) rfl, wg_of 27 (by decide +kernel) rfl, wg_of 134 (by decide +kernel) rfl, rfl, by decide +kernel⟩
theorem ol_X6_3 : OL RX6 3 := ⟨wg_of 56 (by decide +kernel) rfl, wg_of 43 (by decide +kernel) rfl, wg_of 44 (by decide +kernel) rfl⟩
theorem nl_X7_7 : NL RX7 7 RX1 7 := ⟨wg_of 45 (by decide +kernel) rfl, wg_of 46 (by decide +kernel) rfl, wg_of 23 (by decide +kernel) rfl⟩
theorem nl_X7_16 : NL RX7 16 RX5 11 := ⟨wg_of 92 (by decide +kernel) rfl, wg_of 93 (by decide +kernel) rfl, wg_of 25 (by decide +kernel) rfl⟩
theorem nl_X7_29 : NL RX7 29 RX0 2 := ⟨wg_of 220 (by decide +kernel) rfl, wg_of 221 (by decide +kernel) rfl, wg_of 28 (by decide +kernel) rfl⟩
theorem nl_X7_36 : NL RX7 36 RX4 2 := ⟨wg_of 237 (by decide +kernel) rfl, wg_of 238 (by decide +kernel) rfl, wg_of 29 (by decide +kernel) rfl⟩
theorem nl_X0_9 : NL RX0 9 RX5 11 := ⟨wg_of 226 (by decide +kernel) rfl, wg_of 93 (by decide +kernel) rfl, wg_of 25 (by decide +kernel) rfl⟩
theorem nl_X1_9 : NL RX1 9 RX6 2 := ⟨wg_of 51 (by decide +kernel) rfl, wg_of 52 (by decide +kernel) rfl, wg_of 24 (by decide +kernel) rfl⟩
theorem nl_X4_7 : NL RX4 7 RX5 11 := ⟨wg_of 243 (by decide +kernel) rfl, wg_of 93 (by decide +kernel) rfl, wg_of 25 (by decide +kernel) rfl⟩
theorem nl_X5_9 : NL RX5 9 RX3 6 := ⟨wg_of 98 (by decide +kernel) rfl, wg_of 99 (by decide +kernel) rfl, wg_of 26 (by decide +kernel) rfl⟩
theorem nl_X5_18 : NL RX5 18 RX2 10 := ⟨wg_of 129 (by decide +kernel) rfl, wg_of 131 (by decide +kernel) rfl, wg_of 27 (by decide +kernel) rfl⟩
theorem ff_X7_10 : FF RX7 10 7 0 RX7 TX7 7 tyX7 (.object "MeterRooms$Reader") := ⟨fl_X7_10, tyX7_ok, nmX7, rfl, by decide +kernel, rfl⟩
theorem ff_X7_19 : FF RX7 19 7 1 RX7 TX7 7 tyX7 (.object "MeterRooms$State") := ⟨fl_X7_19, tyX7_ok, nmX7, rfl, by decide +kernel, rfl⟩
theorem ff_X7_23 : FF RX7 23 7 2 RX7 TX7 7 tyX7 (.object "MeterRooms$State") := ⟨fl_X7_23, tyX7_ok, nmX7, rfl, by decide +kernel, rfl⟩
theorem ff_X7_26 : FF RX7 26 7 3 RX7 TX7 7 tyX7 (.object "MeterRooms$State") := ⟨fl_X7_26, tyX7_ok, nmX7, rfl, by decide +kernel, rfl⟩
theorem ff_X7_32 : FF RX7 32 7 4 RX7 TX7 7 tyX7 (.object "MeterRooms$Memory") := ⟨fl_X7_32, tyX7_ok, nmX7, rfl, by decide +kernel, rfl⟩
theorem ff_X7_39 : FF RX7 39 7 5 RX7 TX7 7 tyX7 (.object "MeterRooms$Slot") := ⟨fl_X7_39, tyX7_ok, nmX7, rfl, by decide +kernel, rfl⟩
theorem ff_X7_43 : FF RX7 43 7 6 RX7 TX7 7 tyX7 (.object "MeterRooms$Slot") := ⟨fl_X7_43, tyX7_ok, nmX7, rfl, by decide +kernel, rfl⟩
theorem ff_X0_11 : FF RX0 11 0 0 RX0 TX0 2 tyX0 (.array (.object "MeterRooms$State")) := ⟨fl_X0_11, tyX0_ok, nmX0, rfl, by decide +kernel, rfl⟩
theorem ff_X1_12 : FF RX1 12 1 0 RX1 TX1 7 tyX1 (.object "MeterRooms$Text") := ⟨fl_X1_12, tyX1_ok, nmX1, rfl, by decide +kernel, rfl⟩
theorem ff_X2_9 : FF RX2 9 2 0 RX2 TX2 10 tyX2 .int := ⟨fl_X2_9, tyX2_ok, nmX2, rfl, by decide +kernel, rfl⟩
theorem ff_X4_10 : FF RX4 10 4 0 RX4 TX4 2 tyX4 (.object "MeterRooms$State") := ⟨fl_X4_10, tyX4_ok, nmX4, rfl, by decide +kernel, rfl⟩
theorem ff_X5_12 : FF RX5 12 5 0 RX5 TX5 11 tyX5 (.object "MeterRooms$Settings") := ⟨fl_X5_12, tyX5_ok, nmX5, rfl, by decide +kernel, rfl⟩
theorem ff_X5_20 : FF RX5 20 5 1 RX5 TX5 11 tyX5 (.array (.object "MeterRooms$Room")) := ⟨fl_X5_20, tyX5_ok, nmX5, rfl, by decide +kernel, rfl⟩
theorem ff_X6_9 : FF RX6 9 6 0 RX6 TX6 2 tyX6 (.array .char) := ⟨fl_X6_9, tyX6_ok, nmX6, rfl, by decide +kernel, rfl⟩
theorem nl_L_8 : NL RL 8 RX7 7 := ⟨wg_of 37 (by decide +kernel) rfl, wg_of 38 (by decide +kernel) rfl, wg_of 22 (by decide +kernel) rfl⟩
theorem il_L_163 : IL RL 163 yX7_init cX7_init 1 0 := ⟨wg_of 39 (by decide +kernel) rfl, wg_of 40 (by decide +kernel) rfl, wg_of 22 (by decide +kernel) rfl, wg_of 41 (by decide +kernel) rfl, rfl, by decide +kernel⟩
theorem ac_int : Cond.arrayClass (newarray.typeOf .int) ∈ WG := wg_of 872 (by decide +kernel) rfl
theorem ac_char : Cond.arrayClass (newarray.typeOf .char) ∈ WG := wg_of 64 (by decide +kernel) rfl
