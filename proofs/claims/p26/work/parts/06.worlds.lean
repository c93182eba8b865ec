/-! worlds by their kinds -/
def rmF (r : Nat → Int32) : List Value := [.int (r 0), .int (r 1), .int (r 2), .int (r 3), .int (r 4), .int (r 5), .int (r 6), .int (r 7), .int (r 8), .int (r 9)]
def seF (u : Nat → Int32) : List Value := [.int (u 0), .int (u 1), .int (u 2), .int (u 3), .int (u 4), .int (u 5)]
def sgF (x y : Nat) (g : Nat → Int32) : List Value := [.ref x, .ref y, .int (g 1), .int (g 2), .int (g 3), .int (g 4), .int (g 5), .int (g 6), .int (g 7), .int (g 8), .int (g 9)]
def txF (x : Nat) (q : Nat → Int32) : List Value := [.ref x, .int (q 1)]
def rdF (x : Nat) (q : Nat → Int32) : List Value := [.ref x, .int (q 1), .int (q 2), .int (q 3), .int (q 4), .int (q 5), .int (q 6)]
def mmF (x : Nat) (q : Nat → Int32) : List Value := [.ref x, .int (q 1)]
def slF (x : Nat) (q : Nat → Int32) : List Value := [.ref x, .int (q 1)]
/-- the reference's object: its arrays text, now, trial, diary, kept, isKept, job lie at b 1 .. b 7 -/
def moF (b : Nat → Nat) (q : Nat → Int32) : List Value := [.int (q 0), .ref (b 1), .int (q 2), .ref (b 2), .ref (b 3), .ref (b 4), .int (q 6), .ref (b 5), .ref (b 6), .ref (b 7), .int (q 10), .int (q 11), .int (q 12), .int (q 13)]
/-- the class's object: reader, fresh, present, trial, memory, slot0, slot1 -/
def mrF (b : Nat → Nat) : List Value := [.ref (b 1), .ref (b 2), .ref (b 3), .ref (b 4), .ref (b 5), .ref (b 6), .ref (b 7)]
def updR (rv : Nat → Nat → Int32) (i : Nat) (r : Nat → Int32) : Nat → Nat → Int32 := fun j => if j = i then r else rv j
/-- a State's nine cells: itself, its settings, its row of rooms, its rooms -/
def stW (kk : Nat → ClassId) (a : Nat → Nat) (g u : Nat → Int32) (rv : Nat → Nat → Int32) : va_W :=
  [(a 0, .inr (5, sgF (a 1) (a 2) g)), (a 1, .inr (3, seF u)), (a 2, .inl (kk 3, 6, .inr (.inr (.inr (.inr fun j => some (a (3 + j))))))), (a 3, .inr (2, rmF (rv 0))), (a 4, .inr (2, rmF (rv 1))), (a 5, .inr (2, rmF (rv 2))), (a 6, .inr (2, rmF (rv 3))), (a 7, .inr (2, rmF (rv 4))), (a 8, .inr (2, rmF (rv 5)))]
theorem six {P : Nat → Prop} (h0 : P 0) (h1 : P 1) (h2 : P 2) (h3 : P 3) (h4 : P 4) (h5 : P 5) {i : Nat} (hi : i < 6) : P i := by
  rcases (show i = 0 ∨ i = 1 ∨ i = 2 ∨ i = 3 ∨ i = 4 ∨ i = 5 by omega) with rfl | rfl | rfl | rfl | rfl | rfl
  · exact h0
  · exact h1
  · exact h2
  · exact h3
  · exact h4
  · exact h5
theorem st_at {kk : Nat → ClassId} {a : Nat → Nat} {g u : Nat → Int32} {rv : Nat → Nat → Int32} {i : Nat} (hi : i < 6) : (stW kk a g u rv)[3 + i]? = some (a (3 + i), .inr (2, rmF (rv i))) :=
  six (P := fun i => (stW kk a g u rv)[3 + i]? = some (a (3 + i), .inr (2, rmF (rv i)))) rfl rfl rfl rfl rfl rfl hi
theorem updR_s {rv : Nat → Nat → Int32} {i : Nat} {r : Nat → Int32} : updR rv i r i = r := if_pos rfl
theorem updR_n {rv : Nat → Nat → Int32} {i j : Nat} {r : Nat → Int32} (h : j ≠ i) : updR rv i r j = rv j := if_neg h
theorem updR_u {rv : Nat → Nat → Int32} {i : Nat} {r r2 : Nat → Int32} : updR (updR rv i r) i r2 = updR rv i r2 := by
  funext j
  unfold updR
  by_cases h : j = i
  · rw [if_pos h, if_pos h]
  · rw [if_neg h, if_neg h, if_neg h]
theorem updR_id {rv : Nat → Nat → Int32} {i : Nat} : updR rv i (rv i) = rv := by
  funext j
  unfold updR
  by_cases h : j = i
  · rw [if_pos h, h]
  · rw [if_neg h]
theorem st_atU {kk : Nat → ClassId} {a : Nat → Nat} {g u : Nat → Int32} {rv : Nat → Nat → Int32} {i : Nat} {r : Nat → Int32} (hi : i < 6) : (stW kk a g u (updR rv i r))[3 + i]? = some (a (3 + i), .inr (2, rmF r)) := by
  rw [st_at hi, updR_s]
theorem st_put {kk : Nat → ClassId} {a : Nat → Nat} {g u : Nat → Int32} {rv : Nat → Nat → Int32} {i : Nat} (hi : i < 6) (r : Nat → Int32) {fs : List Value} (e : fs = rmF r) : (stW kk a g u rv).set (3 + i) (a (3 + i), .inr (2, fs)) = stW kk a g u (updR rv i r) := by
  subst e
  exact six (P := fun i => (stW kk a g u rv).set (3 + i) (a (3 + i), .inr (2, rmF r)) = stW kk a g u (updR rv i r)) rfl rfl rfl rfl rfl rfl hi
theorem st_putU {kk : Nat → ClassId} {a : Nat → Nat} {g u : Nat → Int32} {rv : Nat → Nat → Int32} {i : Nat} {r1 : Nat → Int32} (hi : i < 6) (r : Nat → Int32) {fs : List Value} (e : fs = rmF r) : (stW kk a g u (updR rv i r1)).set (3 + i) (a (3 + i), .inr (2, fs)) = stW kk a g u (updR rv i r) := by
  rw [st_put hi r e, updR_u]
section TOP
variable {p : Program} {l : Launch} {e : Env} {R : Room} {s : State} {m : MethodId} {args : Array Value} {below : List Frame} {meth : Method} {c : Code} {H : Heap} {locs : List Loc} {cells slots : Nat} {Q : State → Prop} {pc : Nat} {ls : Array Slot} {rest : List Value}
theorem top_eq {x y : Int32} (h : x = y) (k : W p l e R s m args below meth c H locs cells slots Q (F0 m pc ls (.int y :: rest))) : W p l e R s m args below meth c H locs cells slots Q (F0 m pc ls (.int x :: rest)) := by rw [h]; exact k
theorem top_eqL {x y : Int64} (h : x = y) (k : W p l e R s m args below meth c H locs cells slots Q (F0 m pc ls (.long y :: rest))) : W p l e R s m args below meth c H locs cells slots Q (F0 m pc ls (.long x :: rest)) := by rw [h]; exact k
theorem top_eqV {x y : Value} (h : x = y) (k : W p l e R s m args below meth c H locs cells slots Q (F0 m pc ls (y :: rest))) : W p l e R s m args below meth c H locs cells slots Q (F0 m pc ls (x :: rest)) := by rw [h]; exact k
theorem r_mmax {cc : ByteArray} (hexec : p.tables.exec = Jvm.exec) (hb : c.code = cc) (hts : ∀ w ∈ WG, w.before args s = true) {nL : Nat} (hml : c.maxLocals = nL) (hl : ls.size = nL) {own : String} {index : Nat} (hown : s.vm.findClass own = some m.cls) (hlink : Cond.methodLink own index Lib.Math.max.name ∈ WG) (jm : Cond.static Lib.Math.max.name ∈ WG ∧ Cond.initialized "java/lang/Math" ∈ WG ∧ Cond.code Lib.Math.max.name Lib.Math.max.code 2 (some .int) ∈ WG)
    (hframes : 1 ≤ R.frames) (hlocals : (rest.map fun v => v.category).sum + 13 ≤ R.locals) (hc : cells ≤ R.cells) (hs : slots ≤ R.slots) {x y : Int32} (hdg : decode cc pc = .ok (.invokestatic index, 3))
    (kk : W p l e R s m args below meth c H locs cells slots Q (F0 m (pc + 3) ls (.int (if x < y then y else x) :: rest))) : W p l e R s m args below meth c H locs cells slots Q (F0 m pc ls (.int y :: .int x :: rest)) :=
  va_mmax hexec hb (hml.trans hl.symm) hown (hts _ hlink) (hts _ jm.1) (hts _ jm.2.1) (hts _ jm.2.2) hframes hlocals hc hs hdg kk
end TOP
abbrev GO (p : Program) (l : Launch) (e : Env) (rm : Room) (s : State) (m : MethodId) (args : Array Value) (below : List Frame) (meth : Method) (c : Code) (A : Nat → Prop) (Qk : (Nat → Prop) → Array Value → State → Outcome → State → Prop) (H : Heap) (locs : List Loc) (g : JFrame) : Prop := W p l e rm s m args below meth c H locs 0 0 (MQ below (Qk A) args s 0 0 A) g
abbrev rmO (f n : Nat) : Room := { frames := f, cells := 0, slots := 0, locals := n }
theorem r_mmin {p : Program} {l : Launch} {e : Env} {R : Room} {s : State} {m : MethodId} {args : Array Value} {below : List Frame} {meth : Method} {c : Code} {H : Heap} {locs : List Loc} {cells slots : Nat} {Q : State → Prop} {pc : Nat} {ls : Array Slot} {rest : List Value} {cc : ByteArray} (hexec : p.tables.exec = Jvm.exec) (hb : c.code = cc) (hts : ∀ w ∈ WG, w.before args s = true) {nL : Nat} (hml : c.maxLocals = nL) (hl : ls.size = nL) {own : String} {index : Nat} (hown : s.vm.findClass own = some m.cls) (hlink : Cond.methodLink own index Lib.Math.min.name ∈ WG) (jm : Cond.static Lib.Math.min.name ∈ WG ∧ Cond.initialized "java/lang/Math" ∈ WG ∧ Cond.code Lib.Math.min.name Lib.Math.min.code 2 (some .int) ∈ WG)
    (hframes : 1 ≤ R.frames) (hlocals : (rest.map fun v => v.category).sum + 13 ≤ R.locals) (hc : cells ≤ R.cells) (hs : slots ≤ R.slots) {x y : Int32} (hdg : decode cc pc = .ok (.invokestatic index, 3))
    (kk : W p l e R s m args below meth c H locs cells slots Q (F0 m (pc + 3) ls (.int (if y < x then y else x) :: rest))) : W p l e R s m args below meth c H locs cells slots Q (F0 m pc ls (.int y :: .int x :: rest)) :=
  va_mmin hexec hb (hml.trans hl.symm) hown (hts _ hlink) (hts _ jm.1) (hts _ jm.2.1) (hts _ jm.2.2) hframes hlocals hc hs hdg kk
theorem map1 {ws : va_W} {q : Nat} {x : Nat × va_E} (h : ws[q]? = some x) : [q].map (fun i => ws[i]?) = ([x] : va_W).map some := by simp [h]
theorem map2 {ws : va_W} {q1 q2 : Nat} {x1 x2 : Nat × va_E} (h1 : ws[q1]? = some x1) (h2 : ws[q2]? = some x2) : [q1, q2].map (fun i => ws[i]?) = ([x1, x2] : va_W).map some := by simp [h1, h2]
theorem map3 {ws : va_W} {q1 q2 q3 : Nat} {x1 x2 x3 : Nat × va_E} (h1 : ws[q1]? = some x1) (h2 : ws[q2]? = some x2) (h3 : ws[q3]? = some x3) : [q1, q2, q3].map (fun i => ws[i]?) = ([x1, x2, x3] : va_W).map some := by simp [h1, h2, h3]
theorem nd1 (i : Nat) : va_nd [i] = true := by simp [va_nd]
theorem nd03 (i : Nat) : va_nd [0, 3 + i] = true := by simp [va_nd]; omega
theorem nd013 (i : Nat) : va_nd [0, 1, 3 + i] = true := by simp [va_nd]; omega
/-- a choice by an Option -/
def oe {α : Type} (r : Option Nat) (n : α) (f : Nat → α) : α := match r with
  | none => n
  | some k => f k
theorem oe_n {α : Type} {r : Option Nat} {n : α} {f : Nat → α} (h : r = none) : oe r n f = n := by rw [h]; rfl
theorem oe_s {α : Type} {r : Option Nat} {n : α} {f : Nat → α} {k : Nat} (h : r = some k) : oe r n f = f k := by rw [h]; rfl
def zb (x : Int32) : Prop := x = 0 ∨ x = 1
theorem zb_n {x : Int32} (h : zb x) : narrow .boolean (.int x) = .int x := by
  rcases h with rfl | rfl <;> rfl
theorem zb_f {x : Int32} (h : zb x) : fits .boolean (.int x) = true := by
  rcases h with rfl | rfl <;> rfl
theorem zb_0 : zb 0 := Or.inl rfl
theorem zb_1 : zb 1 := Or.inr rfl
theorem zb_if {c : Prop} [Decidable c] {x y : Int32} (h1 : zb x) (h2 : zb y) : zb (if c then x else y) := by
  by_cases h : c
  · rw [if_pos h]; exact h1
  · rw [if_neg h]; exact h2
theorem st_same {kk : Nat → ClassId} {a : Nat → Nat} {g u : Nat → Int32} {rv : Nat → Nat → Int32} {i : Nat} (hi : i < 6) : (stW kk a g u rv).set (3 + i) (a (3 + i), .inr (2, rmF (rv i))) = stW kk a g u rv := by
  rw [st_put hi (rv i) rfl, updR_id]
theorem opt_or (x : Option Nat) : x = none ∨ ∃ k, x = some k := by
  cases x with
  | none => exact Or.inl rfl
  | some k => exact Or.inr ⟨k, rfl⟩
theorem tc_e {i : Int32} (h : ¬ i < 0) : i = nI i.toNatClampNeg := by
  obtain ⟨j, hj, rfl⟩ := nI_of h
  rw [nI_clamp hj]
theorem tc_l {i : Int32} {n : Nat} (h : ¬ i < 0) (h2 : ¬ nI n ≤ i) (hn : n < 2 ^ 31) : i.toNatClampNeg < n := by
  obtain ⟨j, hj, rfl⟩ := nI_of h
  rw [nI_clamp hj]
  rcases Nat.lt_or_ge j n with q | q
  · exact q
  · exact absurd (nI_le q hj) h2
theorem cg1 {α γ : Type} (f : α → γ) {a a' : α} (h1 : a = a') : f a = f a' := by rw [h1]
theorem cg2 {α β γ : Type} (f : α → β → γ) {a a' : α} {b b' : β} (h1 : a = a') (h2 : b = b') : f a b = f a' b' := by rw [h1, h2]
theorem cg3 {α β δ γ : Type} (f : α → β → δ → γ) {a a' : α} {b b' : β} {c c' : δ} (h1 : a = a') (h2 : b = b') (h3 : c = c') : f a b c = f a' b' c' := by rw [h1, h2, h3]
theorem cg4 {α β δ ε γ : Type} (f : α → β → δ → ε → γ) {a a' : α} {b b' : β} {c c' : δ} {d d' : ε} (h1 : a = a') (h2 : b = b') (h3 : c = c') (h4 : d = d') : f a b c d = f a' b' c' d' := by rw [h1, h2, h3, h4]
theorem cg5 {α β δ ε ζ γ : Type} (f : α → β → δ → ε → ζ → γ) {a a' : α} {b b' : β} {c c' : δ} {d d' : ε} {e e' : ζ} (h1 : a = a') (h2 : b = b') (h3 : c = c') (h4 : d = d') (h5 : e = e') : f a b c d e = f a' b' c' d' e' := by rw [h1, h2, h3, h4, h5]
