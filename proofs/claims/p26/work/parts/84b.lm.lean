/-! A method of the law: its start and its end -/
theorem cg2_start {l : Launch} {y : MethodName} {b : ByteArray} {n cs ss : Nat} {ret : Option FieldType} {rm : Room} {as : List Value} {G : va_G} {kk : Nat → ClassId} {wc : va_W} {Φ : va_W → Int32 → Prop} (hy : plainName y.cls = true) (hn : (lg_sl as).length ≤ n) (hrt : ret = some .int ∨ ret = some .boolean)
    (body : ∀ (p : Program) (e : Env) (s : State) (m : MethodId) (args : Array Value) (below : List Frame) (meth : Method) (c : Code) (A : Nat → Prop) (ls : Array Slot) (Q : State → Prop), LM p l e rm s m args below meth c b n y.cls G kk A → va_P G vwCl wc s.heap → va_D A wc → va_S A s.heap s.heap [] → lv_has ls n (lv_args 0 as) →
      (∀ (w1 : va_W) (v : Int32) (H : Heap) (locs : List Loc) (ls : Array Slot) (pc : Nat), Φ w1 v → w1.map (fun q => q.1) = wc.map (fun q => q.1) → va_P G vwCl w1 H → va_D A w1 → va_S A s.heap H locs → (ret = some .boolean → narrow .boolean (.int v) = .int v) → decode b pc = .ok (.ireturn, 1) → W p l e rm s m args below meth c H locs cs ss Q (F0 m pc ls [.int v])) →
      W p l e rm s m args below meth c s.heap [] 0 0 Q (F0 m 0 ls [])) : CG l y b n ret rm as G kk wc cs ss (QG G kk wc Φ) := by
  refine cg_start hy hn ?_
  intro p e s m below meth c A ls hx hb hr hml hown hts hlocks hA hE hN hK hP hD hS hl
  have X : LM p l e rm s m as.toArray below meth c b n y.cls G kk A := ⟨hx, hb, hml, hown, hts, hK, hA, hE, hN⟩
  refine body p e s m as.toArray below meth c A ls _ X hP hD hS hl (fun w1 v H locs ls pc hΦ ha hP hD hS hz hd => ?_)
  rcases hrt with h | h
  · exact fin_g X (hr.trans h) hlocks hP hD hS hΦ ha hd
  · exact fin_gz X (hr.trans h) hlocks hP hD hS hΦ ha (hz h) hd
