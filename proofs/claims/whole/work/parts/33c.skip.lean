theorem setMany_skip (pre : va_W) : ∀ (is : List Nat) (w' ws : va_W), setMany (pre ++ ws) (is.map (fun i => pre.length + i)) w' = pre ++ setMany ws is w'
  | [], w', ws => by simp [setMany]
  | i :: is, [], ws => by simp [setMany]
  | i :: is, x :: xs, ws => by
    show setMany ((pre ++ ws).set (pre.length + i) x) _ xs = pre ++ setMany (ws.set i x) is xs
    rw [List.set_append_right _ _ (by omega), Nat.add_sub_cancel_left]
    exact setMany_skip pre is xs (ws.set i x)
theorem rng_add (m : Nat) : ∀ (k n : Nat), List.range' (m + n) k = (List.range' n k).map (fun i => m + i)
  | 0, _ => rfl
  | k + 1, n => by
    rw [List.range'_succ, List.range'_succ, List.map_cons, Nat.add_assoc, rng_add m k (n + 1)]
theorem skip_map {pre ws W : va_W} {n k m : Nat} (h : (List.range' n k).map (fun i => ws[i]?) = W.map some) (hm : pre.length = m) : (List.range' (m + n) k).map (fun i => (pre ++ ws)[i]?) = W.map some := by
  subst hm
  rw [rng_add, List.map_map, ← h]
  refine List.map_congr_left (fun i _ => ?_)
  show (pre ++ ws)[pre.length + i]? = ws[i]?
  rw [List.getElem?_append_right (by omega), Nat.add_sub_cancel_left]
theorem skip_set {pre ws w' ws' : va_W} {n k m : Nat} (h : setMany ws (List.range' n k) w' = ws') (hm : pre.length = m) : setMany (pre ++ ws) (List.range' (m + n) k) w' = pre ++ ws' := by
  subst hm
  rw [rng_add, setMany_skip, h]
