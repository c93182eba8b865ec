/-! Contracts over a store's cells as one block: what they hold may be said of cells that are only known to be there -/
theorem embL_C {w wb : va_W} : ∀ {is : List Nat} {W : va_W}, is.map (fun i => w[i]?) = W.map some → is.map (fun i => (w ++ wb)[i]?) = W.map some
  | [], _, h => h
  | i :: is, [], h => by simp at h
  | i :: is, x :: W, h => by
    rw [List.map_cons, List.map_cons] at h
    obtain ⟨h1, h2⟩ := List.cons.inj h
    have hl := (List.getElem?_eq_some_iff.mp h1).1
    rw [List.map_cons, List.map_cons, embL_C h2, List.getElem?_append_left hl, h1]
theorem embL_S {wb : va_W} : ∀ {is : List Nat} {w W : va_W}, (∀ i ∈ is, i < w.length) → setMany (w ++ wb) is W = setMany w is W ++ wb
  | [], w, W, h => by cases W <;> rfl
  | i :: is, w, [], h => rfl
  | i :: is, w, x :: W, h => by
    show setMany ((w ++ wb).set i x) is W = setMany (w.set i x) is W ++ wb
    rw [List.set_append_left i x (h i List.mem_cons_self)]
    exact embL_S (fun j hj => by rw [List.length_set]; exact h j (List.mem_cons_of_mem _ hj))
theorem embR_C {wa w : va_W} {n : Nat} (hn : wa.length = n) : ∀ {is : List Nat} {W : va_W}, is.map (fun i => w[i]?) = W.map some → (is.map (fun i => n + i)).map (fun i => (wa ++ w)[i]?) = W.map some
  | [], _, h => h
  | i :: is, [], h => by simp at h
  | i :: is, x :: W, h => by
    rw [List.map_cons, List.map_cons] at h
    obtain ⟨h1, h2⟩ := List.cons.inj h
    rw [List.map_cons, List.map_cons, List.map_cons, embR_C hn h2, List.getElem?_append_right (by omega), hn, Nat.add_sub_cancel_left, h1]
theorem embR_S {wa : va_W} {n : Nat} (hn : wa.length = n) : ∀ {is : List Nat} {w W : va_W}, setMany (wa ++ w) (is.map (fun i => n + i)) W = wa ++ setMany w is W
  | [], w, W => by cases W <;> rfl
  | i :: is, w, [] => rfl
  | i :: is, w, x :: W => by
    show setMany ((wa ++ w).set (n + i) x) (is.map (fun i => n + i)) W = wa ++ setMany (w.set i x) is W
    rw [List.set_append_right (n + i) x (by omega), hn, Nat.add_sub_cancel_left]
    exact embR_S hn
theorem map_lt {w : va_W} : ∀ {is : List Nat} {W : va_W}, is.map (fun i => w[i]?) = W.map some → ∀ i ∈ is, i < w.length
  | [], _, _, i, h => absurd h List.not_mem_nil
  | j :: is, [], h, _, _ => by simp at h
  | j :: is, x :: W, h, i, hi => by
    rw [List.map_cons, List.map_cons] at h
    obtain ⟨h1, h2⟩ := List.cons.inj h
    rcases List.mem_cons.mp hi with rfl | hi
    · exact (List.getElem?_eq_some_iff.mp h1).1
    · exact map_lt h2 i hi
theorem nd179 : va_nd (List.range' 0 179) = true := by decide +kernel
theorem nd179R : va_nd (List.range' 179 179) = true := by decide +kernel
theorem ads_len {w w' : va_W} (h : w'.map (fun q => q.1) = w.map (fun q => q.1)) : w'.length = w.length := by
  have := congrArg List.length h
  rwa [List.length_map, List.length_map] at this
def QG (G : va_G) (kk : Nat → ClassId) (wc : va_W) (Φ : va_W → Int32 → Prop) (A : Nat → Prop) : Array Value → State → Outcome → State → Prop := va_Qi (S := va_W) (fun x w1 => Φ w1 x ∧ w1.map (fun q => q.1) = wc.map (fun q => q.1)) (fun w1 t => mB G kk w1 A t) A
/-- a contract of a method without a table -/
def CG (l : Launch) (y : MethodName) (b : ByteArray) (n : Nat) (ret : Option FieldType) (rm : Room) (as : List Value) (G : va_G) (kk : Nat → ClassId) (wc : va_W) (cs ss : Nat) (Qk : (Nat → Prop) → Array Value → State → Outcome → State → Prop) : Prop :=
  ∀ sz : Nat, Met l y (.code y b n ret :: WG) rm (va_Pc as (mN G kk sz wc)) (Qk (va_A wc sz)) cs ss (va_A wc sz)
theorem cg_start {l : Launch} {y : MethodName} {b : ByteArray} {n cs ss : Nat} {ret : Option FieldType} {rm : Room} {as : List Value} {G : va_G} {kk : Nat → ClassId} {wc : va_W} {Qk : (Nat → Prop) → Array Value → State → Outcome → State → Prop} (hy : plainName y.cls = true) (hn : (lg_sl as).length ≤ n)
    (body : ∀ (p : Program) (e : Env) (s : State) (m : MethodId) (below : List Frame) (meth : Method) (c : Code) (A : Nat → Prop) (ls : Array Slot), p.tables.exec = Jvm.exec → c.code = b → meth.sig.returnType = ret → c.maxLocals = n → s.vm.findClass y.cls = some m.cls → (∀ w ∈ WG, w.before as.toArray s = true) → meth.locks = false → (∀ q : Nat, s.heap.size ≤ q → A q) → ENV A s → NC s → va_K G vwCl (TYS kk) s → va_P G vwCl wc s.heap → va_D A wc → va_S A s.heap s.heap [] → lv_has ls n (lv_args 0 as) →
      W p l e rm s m as.toArray below meth c s.heap [] 0 0 (MQ below (Qk A) as.toArray s cs ss A) (F0 m 0 ls [])) : CG l y b n ret rm as G kk wc cs ss Qk := by
  intro sz
  refine Met.ofW (cc := b) (maxL := n) (ret := ret) hy rfl ?_
  intro p e s m args below meth c s₁ B hml hv
  obtain ⟨rfl, ⟨hsz, hP, hK, hD0, hE⟩, hN⟩ := hv
  have hts := atoms_spec (ws := .code y b n ret :: WG) B.pre
  subst hsz
  have hD := hD0.self (sz := s.heap.size)
  rw [lg_entry_eq]
  exact body p e s m below meth c _ _ B.exec B.bytes B.returns hml (findClass_of_methodNamed B.named) (fun w hw => hts w (List.mem_cons_of_mem _ hw)) B.notSynchronized (fun q h => Or.inr h) hE hN hK hP hD va_S.rf (lv_entry as hn)
def SH (own : String) (index : Nat) (y : MethodName) (b : ByteArray) (n : Nat) (hh : List (Nat × Nat × Nat × Nat)) (np : Nat) : Prop := Cond.methodLink own index y ∈ WG ∧ Cond.static y ∈ WG ∧ Cond.initialized y.cls ∈ WG ∧ Cond.codeWith y b n (some .int) hh ∈ WG ∧ (y.cls ≠ "java/lang/invoke/MethodHandle" ∧ y.cls ≠ "java/lang/invoke/VarHandle" ∧ (parseMethodDescriptor y.desc).map (fun d => d.parameters.length) = some np)
def RG (rm R : Room) (n mc ms : Nat) : Prop := rm.frames + 1 ≤ R.frames ∧ 8 + (n + 11) + rm.locals ≤ R.locals ∧ rm.cells = mc ∧ rm.slots = ms
section ABST
variable {p : Program} {l : Launch} {e : Env} {R : Room} {s : State} {m : MethodId} {args : Array Value} {below : List Frame} {meth : Method} {c : Code} {H : Heap} {locs : List Loc} {cells slots : Nat} {Q : State → Prop}
variable {cc : ByteArray} {pc nL mc ms : Nat} {ls : Array Slot} {rest st0 : List Value} {G : va_G} {kk : Nat → ClassId} {A : Nat → Prop} {ws wa wb wc w1 : va_W} {own : String} {index n : Nat} {y : MethodName} {b : ByteArray} {ret : Option FieldType} {rm : Room} {As : List Value} {hh : List (Nat × Nat × Nat × Nat)} {H0 : Heap}
variable {Qk : (Nat → Prop) → Array Value → State → Outcome → State → Prop} {Φ : va_W → Int32 → Prop}
/-- what stays through a method of the law -/
def LM (p : Program) (l : Launch) (e : Env) (R : Room) (s : State) (m : MethodId) (args : Array Value) (below : List Frame) (meth : Method) (c : Code) (cc : ByteArray) (nL : Nat) (own : String) (G : va_G) (kk : Nat → ClassId) (A : Nat → Prop) : Prop :=
  p.tables.exec = Jvm.exec ∧ c.code = cc ∧ c.maxLocals = nL ∧ s.vm.findClass own = some m.cls ∧ (∀ w ∈ WG, w.before args s = true) ∧ va_K G vwCl (TYS kk) s ∧ (∀ q : Nat, s.heap.size ≤ q → A q) ∧ ENV A s ∧ NC s
theorem k_runH (X : LM p l e R s m args below meth c cc nL own G kk A) (hP : va_P G vwCl ws H) (hD : va_D A ws) (hS : va_S A s.heap H locs) (hl : ls.size = nL)
    (hc : CH l y b n hh rm As G kk wc Qk) (vl : SH own index y b n hh As.length) (hrm : RG rm R n 1 6)
    (isC : List Nat) (hnd : va_nd isC = true) (hC : isC.map (fun i => ws[i]?) = wc.map some) (hcs : cells + 1 ≤ R.cells ∧ slots + 6 ≤ R.slots) (hst : st0 = As.reverse ++ rest) (hWr : (rest.map fun v => v.category).sum ≤ 8) (hdg : decode cc pc = .ok (.invokestatic index, 3)) :
    va_Run p l e R s m args below meth c H locs cells slots 1 6 (F0 m pc ls st0) rest (Qk (va_A wc H.size) As.toArray) (va_A wc H.size) := by
  subst hst
  obtain ⟨hx, hb, hml, hown, hts, hK, hA, hE, hN⟩ := X
  obtain ⟨v1, v2, v4, v5, v6, v7, v8⟩ := vl
  have hPc := sub_P hP isC hC
  have hDc := hD.sub isC hnd hC
  refine vx_runSW (Ts := WG) (ws := .codeWith y b n (some .int) hh :: WG) (rm := rm) (bytes := b) (maxL := n) (ret := some .int) (hh := hh) (n := As.length) (As := As) (rest := rest) ⟨hx, hb, hml, hown, hts⟩ (hc H.size) ?_ ⟨blind_mN, fun U hU hW => ⟨rfl, ⟨by rw [hU], by rw [hU]; exact hPc, va_K.moved hW.alike hK, hDc.weaken (fun _ _ _ _ => trivial), hE.go hS (va_free hD hS hA isC hC) hU hW⟩, NC.alike hW.alike hN⟩⟩ rfl rfl hl rfl (lv_room hWr) hdg hcs
  refine vx_cwSW (ws' := WG) As.length hts (wg_goodIn ?_) rfl hrm.2.2.1 hrm.2.2.2 ⟨v6, v7, v8⟩ ⟨hrm.1, hrm.2.1⟩
  intro w hw
  simp only [va_wsS, List.cons_append, List.nil_append, List.mem_cons] at hw
  rcases hw with rfl | rfl | rfl | rfl | hw
  · exact v1
  · exact v2
  · exact v4
  · exact v5
  · exact hw
theorem k_runG (X : LM p l e R s m args below meth c cc nL own G kk A) (hP : va_P G vwCl ws H) (hD : va_D A ws) (hS : va_S A s.heap H locs) (hl : ls.size = nL)
    (hc : CG l y b n ret rm As G kk wc mc ms Qk) (vl : SL own index y b n ret As.length) (hrm : RG rm R n mc ms)
    (isC : List Nat) (hnd : va_nd isC = true) (hC : isC.map (fun i => ws[i]?) = wc.map some) (hcs : cells + mc ≤ R.cells ∧ slots + ms ≤ R.slots) (hst : st0 = As.reverse ++ rest) (hWr : (rest.map fun v => v.category).sum ≤ 8) (hdg : decode cc pc = .ok (.invokestatic index, 3)) :
    va_Run p l e R s m args below meth c H locs cells slots mc ms (F0 m pc ls st0) rest (Qk (va_A wc H.size) As.toArray) (va_A wc H.size) := by
  subst hst
  obtain ⟨hx, hb, hml, hown, hts, hK, hA, hE, hN⟩ := X
  obtain ⟨v1, v2, v4, v5, v6, v7, v8⟩ := vl
  have hPc := sub_P hP isC hC
  have hDc := hD.sub isC hnd hC
  refine va_runS (Ts := WG) (ws := .code y b n ret :: WG) (rm := rm) (bytes := b) (maxL := n) (ret := ret) (n := As.length) (As := As) (rest := rest) ⟨hx, hb, hml, hown, hts⟩ (hc H.size) ?_ ⟨blind_mN, fun U hU hW => ⟨rfl, ⟨by rw [hU], by rw [hU]; exact hPc, va_K.moved hW.alike hK, hDc.weaken (fun _ _ _ _ => trivial), hE.go hS (va_free hD hS hA isC hC) hU hW⟩, NC.alike hW.alike hN⟩⟩ rfl rfl hl rfl (lv_room hWr) hdg hcs
  refine va_cwS (ws' := WG) As.length hts (wg_goodIn ?_) rfl hrm.2.2.1 hrm.2.2.2 ⟨v6, v7, v8⟩ ⟨hrm.1, hrm.2.1⟩
  intro w hw
  simp only [va_wsS, List.cons_append, List.nil_append, List.mem_cons] at hw
  rcases hw with rfl | rfl | rfl | rfl | hw
  · exact v1
  · exact v2
  · exact v4
  · exact v5
  · exact hw
theorem k_goG {ar : Array Value} (hA : ∀ q : Nat, H0.size ≤ q → A q) (hP : va_P G vwCl ws H) (hD : va_D A ws) (hS : va_S A H0 H locs) (isC : List Nat) (hC : isC.map (fun i => ws[i]?) = wc.map some)
    (hr : va_Run p l e R s m args below meth c H locs cells slots mc ms (F0 m pc ls st0) rest (QG G kk wc Φ (va_A wc H.size) ar) (va_A wc H.size))
    (k : ∀ (w1 : va_W) (r : Int32) (H1 : Heap) (locs1 : List Loc), Φ w1 r → w1.map (fun q => q.1) = wc.map (fun q => q.1) → va_P G vwCl (setMany ws isC w1) H1 → va_D A (setMany ws isC w1) → va_S A H0 H1 locs1 → W p l e R s m args below meth c H1 locs1 (cells + mc) (slots + ms) Q (F0 m (pc + 3) ls (.int r :: rest))) : W p l e R s m args below meth c H locs cells slots Q (F0 m pc ls st0) := by
  have hF := va_free hD hS hA isC hC
  refine va_calli hr hS (fun q _ h => hF q h) hF (fun r1 u t H1 locs1 ht hvm hw hB hz hk hS1 => ?_)
  obtain ⟨hΦ, ha⟩ := hw
  obtain ⟨hP1, -, -⟩ := hB
  rw [ht] at hP1
  obtain ⟨h1, h2⟩ := keep_set hP hD isC hC ha hk hP1
  exact k u r1 H1 locs1 hΦ ha h1 h2 hS1
abbrev KK (p : Program) (l : Launch) (e : Env) (R : Room) (s : State) (m : MethodId) (args : Array Value) (below : List Frame) (meth : Method) (c : Code) (cells slots : Nat) (Q : State → Prop) (g : List Value → JFrame) (G : va_G) (A : Nat → Prop) (Φ : va_W → Int32 → Prop) (rest : List Value) (wc : va_W) (wo : va_W → va_W) : Prop :=
  ∀ (w1 : va_W) (r : Int32) (H1 : Heap) (locs1 : List Loc), Φ w1 r → w1.map (fun q => q.1) = wc.map (fun q => q.1) → va_P G vwCl (wo w1) H1 → va_D A (wo w1) → va_S A s.heap H1 locs1 → W p l e R s m args below meth c H1 locs1 cells slots Q (g (.int r :: rest))
theorem kH1 (X : LM p l e R s m args below meth c cc nL own G kk A) (hP : va_P G vwCl wc H) (hD : va_D A wc) (hS : va_S A s.heap H locs) (hl : ls.size = nL) (hn : wc.length = 179)
    (hc : CH l y b n hh rm As G kk wc (QG G kk wc Φ)) (vl : SH own index y b n hh As.length) (hrm : RG rm R n 1 6) (hcs : cells + 1 ≤ R.cells ∧ slots + 6 ≤ R.slots) (hst : st0 = As.reverse ++ rest) (hWr : (rest.map fun v => v.category).sum ≤ 8) (hdg : decode cc pc = .ok (.invokestatic index, 3))
    (k : KK p l e R s m args below meth c (cells + 1) (slots + 6) Q (F0 m (pc + 3) ls) G A Φ rest wc (fun w => w)) : W p l e R s m args below meth c H locs cells slots Q (F0 m pc ls st0) :=
  k_goG X.2.2.2.2.2.2.1 hP hD hS (List.range' 0 179) (sg_Ce hn) (k_runH X hP hD hS hl hc vl hrm (List.range' 0 179) nd179 (sg_Ce hn) hcs hst hWr hdg) (fun w1 r H1 locs1 hΦ ha h1 h2 h3 => k w1 r H1 locs1 hΦ ha (vP_eq2 h1 (sg_Se hn ((ads_len ha).trans hn))) (vD_eq2 h2 (sg_Se hn ((ads_len ha).trans hn))) h3)
theorem kHL (X : LM p l e R s m args below meth c cc nL own G kk A) (hP : va_P G vwCl (wc ++ wb) H) (hD : va_D A (wc ++ wb)) (hS : va_S A s.heap H locs) (hl : ls.size = nL) (hn : wc.length = 179)
    (hc : CH l y b n hh rm As G kk wc (QG G kk wc Φ)) (vl : SH own index y b n hh As.length) (hrm : RG rm R n 1 6) (hcs : cells + 1 ≤ R.cells ∧ slots + 6 ≤ R.slots) (hst : st0 = As.reverse ++ rest) (hWr : (rest.map fun v => v.category).sum ≤ 8) (hdg : decode cc pc = .ok (.invokestatic index, 3))
    (k : KK p l e R s m args below meth c (cells + 1) (slots + 6) Q (F0 m (pc + 3) ls) G A Φ rest wc (fun w => w ++ wb)) : W p l e R s m args below meth c H locs cells slots Q (F0 m pc ls st0) :=
  k_goG X.2.2.2.2.2.2.1 hP hD hS (List.range' 0 179) (sg_C hn) (k_runH X hP hD hS hl hc vl hrm (List.range' 0 179) nd179 (sg_C hn) hcs hst hWr hdg) (fun w1 r H1 locs1 hΦ ha h1 h2 h3 => k w1 r H1 locs1 hΦ ha (vP_eq2 h1 (sg_S hn ((ads_len ha).trans hn))) (vD_eq2 h2 (sg_S hn ((ads_len ha).trans hn))) h3)
theorem kHR (X : LM p l e R s m args below meth c cc nL own G kk A) (hP : va_P G vwCl (wa ++ wc) H) (hD : va_D A (wa ++ wc)) (hS : va_S A s.heap H locs) (hl : ls.size = nL) (hn : wc.length = 179) (hna : wa.length = 179)
    (hc : CH l y b n hh rm As G kk wc (QG G kk wc Φ)) (vl : SH own index y b n hh As.length) (hrm : RG rm R n 1 6) (hcs : cells + 1 ≤ R.cells ∧ slots + 6 ≤ R.slots) (hst : st0 = As.reverse ++ rest) (hWr : (rest.map fun v => v.category).sum ≤ 8) (hdg : decode cc pc = .ok (.invokestatic index, 3))
    (k : KK p l e R s m args below meth c (cells + 1) (slots + 6) Q (F0 m (pc + 3) ls) G A Φ rest wc (fun w => wa ++ w)) : W p l e R s m args below meth c H locs cells slots Q (F0 m pc ls st0) :=
  k_goG X.2.2.2.2.2.2.1 hP hD hS (List.range' 179 179) (skip_map (m := 179) (n := 0) (sg_Ce hn) hna) (k_runH X hP hD hS hl hc vl hrm (List.range' 179 179) nd179R (skip_map (m := 179) (n := 0) (sg_Ce hn) hna) hcs hst hWr hdg) (fun w1 r H1 locs1 hΦ ha h1 h2 h3 => k w1 r H1 locs1 hΦ ha (vP_eq2 h1 (skip_set (m := 179) (n := 0) (sg_Se hn ((ads_len ha).trans hn)) hna)) (vD_eq2 h2 (skip_set (m := 179) (n := 0) (sg_Se hn ((ads_len ha).trans hn)) hna)) h3)
theorem kG1 (X : LM p l e R s m args below meth c cc nL own G kk A) (hP : va_P G vwCl wc H) (hD : va_D A wc) (hS : va_S A s.heap H locs) (hl : ls.size = nL) (hn : wc.length = 179)
    (hc : CG l y b n ret rm As G kk wc mc ms (QG G kk wc Φ)) (vl : SL own index y b n ret As.length) (hrm : RG rm R n mc ms) (hcs : cells + mc ≤ R.cells ∧ slots + ms ≤ R.slots) (hst : st0 = As.reverse ++ rest) (hWr : (rest.map fun v => v.category).sum ≤ 8) (hdg : decode cc pc = .ok (.invokestatic index, 3))
    (k : KK p l e R s m args below meth c (cells + mc) (slots + ms) Q (F0 m (pc + 3) ls) G A Φ rest wc (fun w => w)) : W p l e R s m args below meth c H locs cells slots Q (F0 m pc ls st0) :=
  k_goG X.2.2.2.2.2.2.1 hP hD hS (List.range' 0 179) (sg_Ce hn) (k_runG X hP hD hS hl hc vl hrm (List.range' 0 179) nd179 (sg_Ce hn) hcs hst hWr hdg) (fun w1 r H1 locs1 hΦ ha h1 h2 h3 => k w1 r H1 locs1 hΦ ha (vP_eq2 h1 (sg_Se hn ((ads_len ha).trans hn))) (vD_eq2 h2 (sg_Se hn ((ads_len ha).trans hn))) h3)
theorem kGL (X : LM p l e R s m args below meth c cc nL own G kk A) (hP : va_P G vwCl (wc ++ wb) H) (hD : va_D A (wc ++ wb)) (hS : va_S A s.heap H locs) (hl : ls.size = nL) (hn : wc.length = 179)
    (hc : CG l y b n ret rm As G kk wc mc ms (QG G kk wc Φ)) (vl : SL own index y b n ret As.length) (hrm : RG rm R n mc ms) (hcs : cells + mc ≤ R.cells ∧ slots + ms ≤ R.slots) (hst : st0 = As.reverse ++ rest) (hWr : (rest.map fun v => v.category).sum ≤ 8) (hdg : decode cc pc = .ok (.invokestatic index, 3))
    (k : KK p l e R s m args below meth c (cells + mc) (slots + ms) Q (F0 m (pc + 3) ls) G A Φ rest wc (fun w => w ++ wb)) : W p l e R s m args below meth c H locs cells slots Q (F0 m pc ls st0) :=
  k_goG X.2.2.2.2.2.2.1 hP hD hS (List.range' 0 179) (sg_C hn) (k_runG X hP hD hS hl hc vl hrm (List.range' 0 179) nd179 (sg_C hn) hcs hst hWr hdg) (fun w1 r H1 locs1 hΦ ha h1 h2 h3 => k w1 r H1 locs1 hΦ ha (vP_eq2 h1 (sg_S hn ((ads_len ha).trans hn))) (vD_eq2 h2 (sg_S hn ((ads_len ha).trans hn))) h3)
theorem kGR (X : LM p l e R s m args below meth c cc nL own G kk A) (hP : va_P G vwCl (wa ++ wc) H) (hD : va_D A (wa ++ wc)) (hS : va_S A s.heap H locs) (hl : ls.size = nL) (hn : wc.length = 179) (hna : wa.length = 179)
    (hc : CG l y b n ret rm As G kk wc mc ms (QG G kk wc Φ)) (vl : SL own index y b n ret As.length) (hrm : RG rm R n mc ms) (hcs : cells + mc ≤ R.cells ∧ slots + ms ≤ R.slots) (hst : st0 = As.reverse ++ rest) (hWr : (rest.map fun v => v.category).sum ≤ 8) (hdg : decode cc pc = .ok (.invokestatic index, 3))
    (k : KK p l e R s m args below meth c (cells + mc) (slots + ms) Q (F0 m (pc + 3) ls) G A Φ rest wc (fun w => wa ++ w)) : W p l e R s m args below meth c H locs cells slots Q (F0 m pc ls st0) :=
  k_goG X.2.2.2.2.2.2.1 hP hD hS (List.range' 179 179) (skip_map (m := 179) (n := 0) (sg_Ce hn) hna) (k_runG X hP hD hS hl hc vl hrm (List.range' 179 179) nd179R (skip_map (m := 179) (n := 0) (sg_Ce hn) hna) hcs hst hWr hdg) (fun w1 r H1 locs1 hΦ ha h1 h2 h3 => k w1 r H1 locs1 hΦ ha (vP_eq2 h1 (skip_set (m := 179) (n := 0) (sg_Se hn ((ads_len ha).trans hn)) hna)) (vD_eq2 h2 (skip_set (m := 179) (n := 0) (sg_Se hn ((ads_len ha).trans hn)) hna)) h3)
/-- both stores at once -/
theorem kG2 (X : LM p l e R s m args below meth c cc nL own G kk A) (hP : va_P G vwCl wc H) (hD : va_D A wc) (hS : va_S A s.heap H locs) (hl : ls.size = nL) (hn : wc.length = 358)
    (hc : CG l y b n ret rm As G kk wc mc ms (QG G kk wc Φ)) (vl : SL own index y b n ret As.length) (hrm : RG rm R n mc ms) (hcs : cells + mc ≤ R.cells ∧ slots + ms ≤ R.slots) (hst : st0 = As.reverse ++ rest) (hWr : (rest.map fun v => v.category).sum ≤ 8) (hdg : decode cc pc = .ok (.invokestatic index, 3))
    (k : KK p l e R s m args below meth c (cells + mc) (slots + ms) Q (F0 m (pc + 3) ls) G A Φ rest wc (fun w => w)) : W p l e R s m args below meth c H locs cells slots Q (F0 m pc ls st0) :=
  k_goG X.2.2.2.2.2.2.1 hP hD hS (List.range' 0 358) (sg_Ce hn) (k_runG X hP hD hS hl hc vl hrm (List.range' 0 358) (by decide +kernel) (sg_Ce hn) hcs hst hWr hdg) (fun w1 r H1 locs1 hΦ ha h1 h2 h3 => k w1 r H1 locs1 hΦ ha (vP_eq2 h1 (sg_Se hn ((ads_len ha).trans hn))) (vD_eq2 h2 (sg_Se hn ((ads_len ha).trans hn))) h3)
theorem fin_g {wf : va_W} {v : Int32} (X : LM p l e R s m args below meth c cc nL own G kk A) (hr : meth.sig.returnType = some .int) (hlocks : meth.locks = false) (hP : va_P G vwCl wf H) (hD : va_D A wf) (hS : va_S A s.heap H locs) (hΦ : Φ wf v) (ha : wf.map (fun q => q.1) = wc.map (fun q => q.1)) (hdg : decode cc pc = .ok (.ireturn, 1)) :
    W p l e R s m args below meth c H locs cells slots (MQ below (QG G kk wc Φ A) args s cells slots A) (F0 m pc ls [.int v]) :=
  W.iret X.1 X.2.1 hr (fun t ht hW => ⟨⟨v, wf, rfl, ⟨hΦ, ha⟩, by rw [ht]; exact hP, va_K.moved hW.alike X.2.2.2.2.2.1, hD⟩, hS.F ht⟩) hS.2.2 hdg hlocks
theorem fin_gz {wf : va_W} {v : Int32} (X : LM p l e R s m args below meth c cc nL own G kk A) (hr : meth.sig.returnType = some .boolean) (hlocks : meth.locks = false) (hP : va_P G vwCl wf H) (hD : va_D A wf) (hS : va_S A s.heap H locs) (hΦ : Φ wf v) (ha : wf.map (fun q => q.1) = wc.map (fun q => q.1)) (hn : narrow .boolean (.int v) = .int v) (hdg : decode cc pc = .ok (.ireturn, 1)) :
    W p l e R s m args below meth c H locs cells slots (MQ below (QG G kk wc Φ A) args s cells slots A) (F0 m pc ls [.int v]) :=
  W.zret X.1 X.2.1 hr hn (fun t ht hW => ⟨⟨v, wf, rfl, ⟨hΦ, ha⟩, by rw [ht]; exact hP, va_K.moved hW.alike X.2.2.2.2.2.1, hD⟩, hS.F ht⟩) hS.2.2 hdg hlocks
end ABST
theorem kc_L_15 : Cond.constant RL 15 (-9999001) ∈ WG := wg_of 630 (by decide +kernel) rfl
theorem kc_L_22 : Cond.constant RL 22 (-9999002) ∈ WG := wg_of 380 (by decide +kernel) rfl
theorem kc_L_33 : Cond.constant RL 33 (-9999003) ∈ WG := wg_of 381 (by decide +kernel) rfl
theorem kc_L_136 : Cond.constant RL 136 (15519071) ∈ WG := wg_of 786 (by decide +kernel) rfl
theorem kc_L_137 : Cond.constant RL 137 (2147483647) ∈ WG := wg_of 787 (by decide +kernel) rfl
theorem kc_L_162 : Cond.constant RL 162 (144000) ∈ WG := wg_of 857 (by decide +kernel) rfl
theorem kc_L_171 : Cond.constant RL 171 (100000) ∈ WG := wg_of 870 (by decide +kernel) rfl
theorem sh_L_82 : SH RL 82 yL_tryAppend cL_tryAppend 3 [(0, 5, 6, 20), (0, 5, 10, 31)] 2 := ⟨wg_of 279 (by decide +kernel) rfl, wg_of 280 (by decide +kernel) rfl, wg_of 21 (by decide +kernel) rfl, wg_of 281 (by decide +kernel) rfl, by decide +kernel⟩
theorem sh_L_88 : SH RL 88 yL_tryLoad cL_tryLoad 2 [(0, 4, 5, 31)] 1 := ⟨wg_of 382 (by decide +kernel) rfl, wg_of 383 (by decide +kernel) rfl, wg_of 21 (by decide +kernel) rfl, wg_of 384 (by decide +kernel) rfl, by decide +kernel⟩
theorem sh_L_92 : SH RL 92 yL_tryAbout cL_tryAbout 3 [(0, 5, 6, 20)] 2 := ⟨wg_of 584 (by decide +kernel) rfl, wg_of 585 (by decide +kernel) rfl, wg_of 21 (by decide +kernel) rfl, wg_of 586 (by decide +kernel) rfl, by decide +kernel⟩
theorem sh_L_95 : SH RL 95 yL_tryRoom cL_tryRoom 4 [(0, 6, 7, 13), (0, 6, 11, 20)] 3 := ⟨wg_of 600 (by decide +kernel) rfl, wg_of 601 (by decide +kernel) rfl, wg_of 21 (by decide +kernel) rfl, wg_of 602 (by decide +kernel) rfl, by decide +kernel⟩
theorem sh_L_99 : SH RL 99 yL_tryDoes cL_tryDoes 3 [(0, 5, 6, 13)] 2 := ⟨wg_of 631 (by decide +kernel) rfl, wg_of 632 (by decide +kernel) rfl, wg_of 21 (by decide +kernel) rfl, wg_of 633 (by decide +kernel) rfl, by decide +kernel⟩
theorem sh_L_102 : SH RL 102 yL_trySetting cL_trySetting 3 [(0, 5, 6, 20)] 2 := ⟨wg_of 639 (by decide +kernel) rfl, wg_of 640 (by decide +kernel) rfl, wg_of 21 (by decide +kernel) rfl, wg_of 641 (by decide +kernel) rfl, by decide +kernel⟩
theorem sh_L_105 : SH RL 105 yL_tryAdd cL_tryAdd 5 [(0, 7, 8, 20), (0, 7, 13, 31)] 4 := ⟨wg_of 652 (by decide +kernel) rfl, wg_of 653 (by decide +kernel) rfl, wg_of 21 (by decide +kernel) rfl, wg_of 654 (by decide +kernel) rfl, by decide +kernel⟩
theorem sh_L_109 : SH RL 109 yL_tryGoods cL_tryGoods 4 [(0, 6, 7, 13), (0, 6, 11, 20)] 3 := ⟨wg_of 672 (by decide +kernel) rfl, wg_of 673 (by decide +kernel) rfl, wg_of 21 (by decide +kernel) rfl, wg_of 674 (by decide +kernel) rfl, by decide +kernel⟩
theorem sh_L_112 : SH RL 112 yL_tryRun cL_tryRun 3 [(0, 5, 6, 20)] 2 := ⟨wg_of 688 (by decide +kernel) rfl, wg_of 689 (by decide +kernel) rfl, wg_of 21 (by decide +kernel) rfl, wg_of 690 (by decide +kernel) rfl, by decide +kernel⟩
theorem sh_L_115 : SH RL 115 yL_tryLay cL_tryLay 4 [(0, 6, 7, 20)] 3 := ⟨wg_of 697 (by decide +kernel) rfl, wg_of 698 (by decide +kernel) rfl, wg_of 21 (by decide +kernel) rfl, wg_of 699 (by decide +kernel) rfl, by decide +kernel⟩
theorem sh_L_118 : SH RL 118 yL_tryUndo cL_tryUndo 2 [(0, 4, 5, 31)] 1 := ⟨wg_of 706 (by decide +kernel) rfl, wg_of 707 (by decide +kernel) rfl, wg_of 21 (by decide +kernel) rfl, wg_of 708 (by decide +kernel) rfl, by decide +kernel⟩
theorem sh_L_121 : SH RL 121 yL_tryWarm cL_tryWarm 3 [(0, 5, 6, 13)] 2 := ⟨wg_of 722 (by decide +kernel) rfl, wg_of 723 (by decide +kernel) rfl, wg_of 21 (by decide +kernel) rfl, wg_of 724 (by decide +kernel) rfl, by decide +kernel⟩
theorem sh_L_124 : SH RL 124 yL_tryComing cL_tryComing 4 [(0, 6, 7, 20)] 3 := ⟨wg_of 731 (by decide +kernel) rfl, wg_of 732 (by decide +kernel) rfl, wg_of 21 (by decide +kernel) rfl, wg_of 733 (by decide +kernel) rfl, by decide +kernel⟩
theorem sh_L_127 : SH RL 127 yL_tryLimit cL_tryLimit 3 [(0, 5, 6, 20)] 2 := ⟨wg_of 747 (by decide +kernel) rfl, wg_of 748 (by decide +kernel) rfl, wg_of 21 (by decide +kernel) rfl, wg_of 749 (by decide +kernel) rfl, by decide +kernel⟩
theorem sh_L_130 : SH RL 130 yL_tryKeep cL_tryKeep 3 [(0, 5, 6, 13)] 2 := ⟨wg_of 758 (by decide +kernel) rfl, wg_of 759 (by decide +kernel) rfl, wg_of 21 (by decide +kernel) rfl, wg_of 760 (by decide +kernel) rfl, by decide +kernel⟩
theorem sh_L_133 : SH RL 133 yL_tryBack cL_tryBack 3 [(0, 5, 6, 13), (0, 5, 10, 31)] 2 := ⟨wg_of 775 (by decide +kernel) rfl, wg_of 776 (by decide +kernel) rfl, wg_of 21 (by decide +kernel) rfl, wg_of 777 (by decide +kernel) rfl, by decide +kernel⟩
theorem sh_L_142 : SH RL 142 yL_doors cL_doors 4 [(0, 6, 7, 13)] 3 := ⟨wg_of 791 (by decide +kernel) rfl, wg_of 792 (by decide +kernel) rfl, wg_of 21 (by decide +kernel) rfl, wg_of 793 (by decide +kernel) rfl, by decide +kernel⟩
theorem sh_L_146 : SH RL 146 yL_doScript cL_doScript 5 [(0, 6, 7, 20)] 3 := ⟨wg_of 802 (by decide +kernel) rfl, wg_of 803 (by decide +kernel) rfl, wg_of 21 (by decide +kernel) rfl, wg_of 804 (by decide +kernel) rfl, by decide +kernel⟩
theorem sh_L_152 : SH RL 152 yL_doSimulate cL_doSimulate 5 [(0, 6, 7, 20)] 3 := ⟨wg_of 823 (by decide +kernel) rfl, wg_of 824 (by decide +kernel) rfl, wg_of 21 (by decide +kernel) rfl, wg_of 825 (by decide +kernel) rfl, by decide +kernel⟩
