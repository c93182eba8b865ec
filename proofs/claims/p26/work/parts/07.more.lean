/-! the addresses stay: said with variables, so that no spec is unfolded -/
theorem ads0 : ([] : va_W).map (fun q => q.1) = ([] : va_W).map (fun q => q.1) := rfl
theorem ads1 {a1 : Nat} {e1 f1 : va_E} : ([(a1, f1)] : va_W).map (fun q => q.1) = ([(a1, e1)] : va_W).map (fun q => q.1) := rfl
theorem ads2 {a1 a2 : Nat} {e1 f1 e2 f2 : va_E} : ([(a1, f1), (a2, f2)] : va_W).map (fun q => q.1) = ([(a1, e1), (a2, e2)] : va_W).map (fun q => q.1) := rfl
theorem ads3 {a1 a2 a3 : Nat} {e1 f1 e2 f2 e3 f3 : va_E} : ([(a1, f1), (a2, f2), (a3, f3)] : va_W).map (fun q => q.1) = ([(a1, e1), (a2, e2), (a3, e3)] : va_W).map (fun q => q.1) := rfl
theorem ads4 {a1 a2 a3 a4 : Nat} {e1 f1 e2 f2 e3 f3 e4 f4 : va_E} : ([(a1, f1), (a2, f2), (a3, f3), (a4, f4)] : va_W).map (fun q => q.1) = ([(a1, e1), (a2, e2), (a3, e3), (a4, e4)] : va_W).map (fun q => q.1) := rfl
theorem ads5 {a1 a2 a3 a4 a5 : Nat} {e1 f1 e2 f2 e3 f3 e4 f4 e5 f5 : va_E} : ([(a1, f1), (a2, f2), (a3, f3), (a4, f4), (a5, f5)] : va_W).map (fun q => q.1) = ([(a1, e1), (a2, e2), (a3, e3), (a4, e4), (a5, e5)] : va_W).map (fun q => q.1) := rfl
theorem ads6 {a1 a2 a3 a4 a5 a6 : Nat} {e1 f1 e2 f2 e3 f3 e4 f4 e5 f5 e6 f6 : va_E} : ([(a1, f1), (a2, f2), (a3, f3), (a4, f4), (a5, f5), (a6, f6)] : va_W).map (fun q => q.1) = ([(a1, e1), (a2, e2), (a3, e3), (a4, e4), (a5, e5), (a6, e6)] : va_W).map (fun q => q.1) := rfl
theorem st_ads {kk : Nat → ClassId} {a : Nat → Nat} {g u g' u' : Nat → Int32} {rv rv' : Nat → Nat → Int32} : (stW kk a g' u' rv').map (fun q => q.1) = (stW kk a g u rv).map (fun q => q.1) := rfl
theorem st_len {kk : Nat → ClassId} {a : Nat → Nat} {g u : Nat → Int32} {rv : Nat → Nat → Int32} : (stW kk a g u rv).length = 9 := rfl
theorem st_mapC {kk : Nat → ClassId} {a : Nat → Nat} {g u : Nat → Int32} {rv : Nat → Nat → Int32} : [0, 1, 2, 3, 4, 5, 6, 7, 8].map (fun i => (stW kk a g u rv)[i]?) = (stW kk a g u rv).map some := rfl
theorem st_full {kk : Nat → ClassId} {a : Nat → Nat} {g u g' u' : Nat → Int32} {rv rv' : Nat → Nat → Int32} : setMany (stW kk a g u rv) [0, 1, 2, 3, 4, 5, 6, 7, 8] (stW kk a g' u' rv') = stW kk a g' u' rv' := rfl
theorem ads_app {p q p' q' : va_W} (h1 : p'.map (fun q => q.1) = p.map (fun q => q.1)) (h2 : q'.map (fun q => q.1) = q.map (fun q => q.1)) : (p' ++ q').map (fun q => q.1) = (p ++ q).map (fun q => q.1) := by rw [List.map_append, List.map_append, h1, h2]
/-- a block in the middle of a world -/
theorem blk_map (pre w post : va_W) : ∀ (n : Nat), pre.length = n → (List.range' n w.length).map (fun i => (pre ++ (w ++ post))[i]?) = w.map some := by
  intro n hn
  subst hn
  apply List.ext_getElem?
  intro j
  rw [List.getElem?_map, List.getElem?_map]
  by_cases hj : j < w.length
  · rw [List.getElem?_range' hj, List.getElem?_eq_getElem hj]
    show some ((pre ++ (w ++ post))[pre.length + 1 * j]?) = some (some w[j])
    rw [Nat.one_mul, List.getElem?_append_right (by omega), Nat.add_sub_cancel_left, List.getElem?_append_left hj, List.getElem?_eq_getElem hj]
  · rw [List.getElem?_eq_none (by simp; omega), List.getElem?_eq_none (by omega)]
    rfl
theorem setMany_pre (x : Nat × va_E) (ws : va_W) : ∀ (is : List Nat) (w1 ws : va_W), setMany (x :: ws) (is.map (· + 1)) w1 = x :: setMany ws is w1
  | [], w1, ws => by simp [setMany]
  | i :: is, [], ws => by simp [setMany]
  | i :: is, y :: ys, ws => by
    simp only [List.map_cons, setMany, List.set_cons_succ]
    exact setMany_pre x ws is ys (ws.set i y)
theorem rng_succ : ∀ (k n : Nat), List.range' (n + 1) k = (List.range' n k).map (· + 1)
  | 0, n => rfl
  | k + 1, n => by
    rw [List.range'_succ, List.range'_succ, List.map_cons, rng_succ k (n + 1)]
theorem blk_set0 (w' post : va_W) : ∀ (w : va_W), w'.length = w.length → setMany (w ++ post) (List.range' 0 w.length) w' = w' ++ post := by
  induction w' with
  | nil =>
    intro w h
    have : w = [] := List.eq_nil_of_length_eq_zero h.symm
    subst this
    rfl
  | cons y ys ih =>
    intro w h
    cases w with
    | nil => simp at h
    | cons x xs =>
      have hl : ys.length = xs.length := by simpa using h
      have e : List.range' 0 (x :: xs).length = 0 :: (List.range' 0 xs.length).map (· + 1) := by
        rw [List.length_cons, List.range'_succ, rng_succ]
      rw [e]
      show setMany ((y :: (xs ++ post))) ((List.range' 0 xs.length).map (· + 1)) ys = _
      rw [setMany_pre y [] , ih xs hl]
      rfl
theorem blk_set (w w' post : va_W) (h : w'.length = w.length) : ∀ (pre : va_W) (n : Nat), pre.length = n → setMany (pre ++ (w ++ post)) (List.range' n w.length) w' = pre ++ (w' ++ post)
  | [], n, hn => by
    subst hn
    exact blk_set0 w' post w h
  | x :: pre, n, hn => by
    subst hn
    have e : List.range' (x :: pre).length w.length = (List.range' pre.length w.length).map (· + 1) := by
      rw [List.length_cons, rng_succ]
    rw [e]
    show setMany (x :: (pre ++ (w ++ post))) _ w' = _
    rw [setMany_pre x [], blk_set w w' post h pre _ rfl]
    rfl
theorem nd_range : ∀ (k n : Nat), va_nd (List.range' n k) = true
  | 0, n => rfl
  | k + 1, n => by
    rw [List.range'_succ]
    simp only [va_nd, Bool.and_eq_true, decide_eq_true_eq]
    exact ⟨by simp; omega, nd_range k (n + 1)⟩
/-- a number of a place, or -1 -/
def ob (w : Option Nat) : Int32 := match w with
  | none => -1
  | some k => nI k
theorem nI_nm1 {k : Nat} (h : k < 2 ^ 31) : ¬ nI k = -1 := by
  intro q
  have h1 := congrArg Int32.toInt q
  rw [nI_toInt h] at h1
  have h2 : (-1 : Int32).toInt = -1 := by decide
  omega
theorem cl_le {n : Int32} {i : Nat} (hn : n = nI n.toNatClampNeg) (h : n.toNatClampNeg ≤ i) (hi : i < 2 ^ 31) : n ≤ nI i := by rw [hn]; exact nI_le h hi
theorem cl_gt {n : Int32} {i : Nat} (hn : n = nI n.toNatClampNeg) (h : i < n.toNatClampNeg) (hb : n.toNatClampNeg < 2 ^ 31) : ¬ n ≤ nI i := by
  intro q
  rw [hn] at q
  exact nI_ge h hb q
theorem pos_e {n : Int32} (h : 1 ≤ n) : n = nI n.toNatClampNeg := tc_e (fun q => absurd (Int32.le_trans h (Int32.le_of_lt q)) (by decide))
theorem cl_b {n : Int32} : n.toNatClampNeg < 2 ^ 31 := by
  have h := Int32.toInt_lt n
  have e : n.toNatClampNeg = n.toInt.toNat := rfl
  rw [e]
  omega
