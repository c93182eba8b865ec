theorem setMany_skip (pre : va_W) : ∀ (is : List Nat) (w' ws : va_W), setMany (pre ++ ws) (is.map (fun i => pre.length + i)) w' = pre ++ setMany ws is w'
  | [], w', ws => by simp [setMany]
  | i :: is, [], ws => by simp [setMany]
  | i :: is, x :: xs, ws => by
    show setMany ((pre ++ ws).set (pre.length + i) x) _ xs = pre ++ setMany (ws.set i x) is xs
    rw [List.set_append_right _ _ (by omega), Nat.add_sub_cancel_left]
    exact setMany_skip pre is xs (ws.set i x)
theorem rng_add (m : Nat) : ∀ (k n : Nat), List.range' (m + n) k = (List.range' n k).map (fun i => m + i)
  | 0, _ => rfl
  | k + 1, n => by
    rw [List.range'_succ, List.range'_succ, List.map_cons, Nat.add_assoc, rng_add m k (n + 1)]
theorem skip_map {pre ws W : va_W} {n k m : Nat} (h : (List.range' n k).map (fun i => ws[i]?) = W.map some) (hm : pre.length = m) : (List.range' (m + n) k).map (fun i => (pre ++ ws)[i]?) = W.map some := by
  subst hm
  rw [rng_add, List.map_map, ← h]
  refine List.map_congr_left (fun i _ => ?_)
  show (pre ++ ws)[pre.length + i]? = ws[i]?
  rw [List.getElem?_append_right (by omega), Nat.add_sub_cancel_left]
theorem skip_set {pre ws w' ws' : va_W} {n k m : Nat} (h : setMany ws (List.range' n k) w' = ws') (hm : pre.length = m) : setMany (pre ++ ws) (List.range' (m + n) k) w' = pre ++ ws' := by
  subst hm
  rw [rng_add, setMany_skip, h]
theorem sk_get {pre ws : va_W} {n m : Nat} {x : Nat × va_E} (h : ws[n]? = some x) (hm : pre.length = m) : (pre ++ ws)[m + n]? = some x := by
  subst hm
  rw [List.getElem?_append_right (by omega), Nat.add_sub_cancel_left]
  exact h
theorem sk_set {pre ws ws' : va_W} {n m : Nat} {x : Nat × va_E} (h : ws.set n x = ws') (hm : pre.length = m) : (pre ++ ws).set (m + n) x = pre ++ ws' := by
  subst hm
  rw [List.set_append_right _ _ (by omega), Nat.add_sub_cancel_left, h]
theorem sg_C {w post : va_W} {k : Nat} (h : w.length = k) : (List.range' 0 k).map (fun i => (w ++ post)[i]?) = w.map some := by
  subst h
  exact blk_map [] w post 0 rfl
theorem sg_Ce {w : va_W} {k : Nat} (h : w.length = k) : (List.range' 0 k).map (fun i => w[i]?) = w.map some := by
  have e := sg_C (post := []) h
  rwa [List.append_nil] at e
theorem sg_S {w w' post : va_W} {k : Nat} (h : w.length = k) (h' : w'.length = k) : setMany (w ++ post) (List.range' 0 k) w' = w' ++ post := by
  subst h
  exact blk_set w w' post h' [] 0 rfl
theorem sg_Se {w w' : va_W} {k : Nat} (h : w.length = k) (h' : w'.length = k) : setMany w (List.range' 0 k) w' = w' := by
  have e := sg_S (post := []) h h'
  rwa [List.append_nil, List.append_nil] at e
theorem mp_nil {ws : va_W} : ([] : List Nat).map (fun i => ws[i]?) = ([] : va_W).map some := rfl
theorem mp_c {ws w : va_W} {q : Nat} {x : Nat × va_E} {is : List Nat} (h : ws[q]? = some x) (k : is.map (fun i => ws[i]?) = w.map some) : (q :: is).map (fun i => ws[i]?) = (x :: w).map some := by rw [List.map_cons, List.map_cons, h, k]
theorem mp_b {ws w1 w2 : va_W} {is1 is2 : List Nat} (h : is1.map (fun i => ws[i]?) = w1.map some) (k : is2.map (fun i => ws[i]?) = w2.map some) : (is1 ++ is2).map (fun i => ws[i]?) = (w1 ++ w2).map some := by rw [List.map_append, List.map_append, h, k]
theorem sm_c {ws ws1 w r : va_W} {q : Nat} {x : Nat × va_E} {is : List Nat} (h : ws.set q x = ws1) (k : setMany ws1 is w = r) : setMany ws (q :: is) (x :: w) = r := by
  rw [← k, ← h]; rfl
theorem sm_b {ws ws1 w1 w2 r : va_W} {is1 is2 : List Nat} (h : setMany ws is1 w1 = ws1) (hl : is1.length = w1.length) (k : setMany ws1 is2 w2 = r) : setMany ws (is1 ++ is2) (w1 ++ w2) = r := by
  rw [setMany_app _ _ _ _ _ hl, h, k]
theorem rl_st {kk : Nat → ClassId} {a : Nat → Nat} {g u : Nat → Int32} {rv : Nat → Nat → Int32} {n : Nat} : (List.range' n 9).length = (stW kk a g u rv).length := List.length_range'
theorem sts_len {kk : Nat → ClassId} {ma : Nat → Nat → Nat} {G U : Nat → Nat → Int32} {RV : Nat → Nat → Nat → Int32} : (stsF kk ma G U RV 0 14).length = 126 := stsF_len 14 0
theorem rl_sts {kk : Nat → ClassId} {ma : Nat → Nat → Nat} {G U : Nat → Nat → Int32} {RV : Nat → Nat → Nat → Int32} {n : Nat} : (List.range' n 126).length = (stsF kk ma G U RV 0 14).length := List.length_range'.trans sts_len.symm
theorem vP_eq2 {G : va_G} {H : Heap} {w w' : va_W} (hP : va_P G vwCl w H) (h : w = w') : va_P G vwCl w' H := h ▸ hP
theorem vD_eq2 {A : Nat → Prop} {w w' : va_W} (hD : va_D A w) (h : w = w') : va_D A w' := h ▸ hD
theorem set_eq {ws : va_W} : ∀ {q : Nat} {x : Nat × va_E}, ws[q]? = some x → ws.set q x = ws := by
  intro q x h
  apply List.ext_getElem?
  intro j
  by_cases hj : q = j
  · subst hj
    rw [List.getElem?_set_self (List.getElem?_eq_some_iff.mp h).1, h]
  · rw [List.getElem?_set_ne hj]
theorem sm_same {ws : va_W} : ∀ {is : List Nat} {w : va_W}, is.map (fun i => ws[i]?) = w.map some → setMany ws is w = ws
  | [], [], _ => rfl
  | [], _ :: _, h => by cases h
  | _ :: _, [], h => by cases h
  | i :: is, x :: xs, h => by
    rw [List.map_cons, List.map_cons] at h
    have h1 := (List.cons.inj h).1
    have h2 := (List.cons.inj h).2
    show setMany (ws.set i x) is xs = ws
    rw [set_eq h1]
    exact sm_same h2
theorem st_atP {kk : Nat → ClassId} {a : Nat → Nat} {g u : Nat → Int32} {rv : Nat → Nat → Int32} {post : va_W} {i : Nat} (hi : i < 6) : (stW kk a g u rv ++ post)[3 + i]? = some (a (3 + i), .inr (2, rmF (rv i))) := by
  rw [List.getElem?_append_left (by rw [st_len]; omega)]
  exact st_at hi
