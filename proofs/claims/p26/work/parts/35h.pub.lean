theorem md_z (g u : Nat → Int32) (rv : Nat → Nat → Int32) (i o : Int32) : zb (sX5_moveDoor g u rv i o).1 := by
  unfold sX5_moveDoor
  cases sX5_roomAt g u rv i with
  | none => exact zb_0
  | some k => exact zb_1
theorem cs_z (g u : Nat → Int32) (rv : Nat → Nat → Int32) (w v : Int32) : zb (sX5_changeSetting g u rv w v).1 := by
  unfold sX5_changeSetting
  by_cases h : sX3_isAllowed w v = 0
  · rw [if_pos h]; exact zb_0
  · rw [if_neg h]; exact zb_1
theorem pm_z0 {g u : Nat → Int32} {rv : Nat → Nat → Int32} {n : Int32} : ∀ (d i : Nat) (g1 : Nat → Int32) (rv1 : Nat → Nat → Int32), (lp_X5_passMinutes_11 g u rv n d i g1 rv1).1 = 1
  | 0, _, _, _ => rfl
  | d + 1, i, g1, rv1 => pm_z0 d (i + 1) _ _
theorem pm_z (g u : Nat → Int32) (rv : Nat → Nat → Int32) (n : Int32) : zb (sX5_passMinutes g u rv n).1 := by
  unfold sX5_passMinutes
  by_cases h : sX5_canPass n = 0
  · rw [if_pos h]; exact zb_0
  · rw [if_neg h]; exact Or.inr (pm_z0 _ _ _ _)

