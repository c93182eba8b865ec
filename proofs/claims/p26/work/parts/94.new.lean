/-! A new store -/
def clN : Nat → Int32 := upd (upd (upd (upd (upd (fun _ => 0) 10 600) 12 10) 13 12) 14 30) 15 6
theorem clN_0 {k : Nat} (h : k < 10 ∨ k = 11 ∨ 15 < k) : clN k = 0 := by
  unfold clN
  simp (disch := omega) only [pk_un]
theorem sm_new : SM clN gz uz rz := by
  refine ⟨fun k h1 h2 => (clN_0 (by omega)).symm, fun k hk => ?_, fun i hi => rfl, fun i w hi hw => ?_⟩
  · have : k = 0 ∨ k = 1 ∨ k = 2 ∨ k = 3 ∨ k = 4 ∨ k = 5 := by omega
    rcases this with h | h | h | h | h | h <;> subst h <;> rfl
  · rw [clN_0 (by omega), show 1 + w = w + 1 by omega]
    rfl
theorem ok_new : OKs 0 0 clN := by
  have z : (0 : Int32).toInt = 0 := rfl
  refine ⟨by decide, clN_0 (by omega), ⟨by decide, by decide⟩, ⟨by decide, by decide⟩, ⟨by decide, by decide⟩, ⟨by decide, by decide⟩, ⟨by decide, by decide⟩, ⟨by decide, by decide⟩, ⟨by decide, by decide⟩, ⟨by decide, by decide, by decide, by decide⟩, fun i hi => ?_⟩
  unfold RO
  rw [clN_0 (by omega), clN_0 (by omega), clN_0 (by omega), clN_0 (by omega), clN_0 (by omega)]
  exact ⟨fun h => absurd h (Nat.not_lt_zero _), fun _ => rfl, Or.inl rfl, by rw [z]; omega, by rw [z]; omega, fun h => absurd h (Nat.not_lt_zero _)⟩
theorem mF_new : mF clN = 0 := mF_of ok_new
def sgN : SG := (clN, 0, fun _ => clN, none, none)
theorem rz_0 : N0 rz := fun i hi => rfl
theorem sl_new : SLf 0 gz gz uz rz none := ⟨rfl, rz_0, fun i hi => Or.inl rfl, fun fs h => by cases h⟩
theorem obf_new : OBF 0 sgN gz (fun j => j) (fun _ => gz) (fun _ => uz) (fun _ => rz) gz gz uz rz gz gz uz rz gz uz rz rz :=
  ⟨⟨rfl, Nat.zero_le _, fun j hj => hj, fun i j _ _ e => e, fun p _ i hi => ⟨rfl, Or.inl rfl⟩, fun p hp => absurd hp (Nat.not_lt_zero _)⟩, sl_new, sl_new, ⟨0, sm_new, ok_new, fun i hi => absurd hi (Nat.not_lt_zero _)⟩, rz_0⟩
/-- what the constructor leaves -/
def NEWW (kk : Nat → ClassId) (h : Nat) (ad : Nat → Nat → Nat) (tx sa ra : Nat) (ma : Nat → Nat → Nat) (b6 b7 : Nat → Nat) : va_W := OBW kk h ad tx sa ra ma b6 b7 gz gz gz gz uz rz gz uz rz gz (fun j => j) (fun _ => gz) (fun _ => uz) (fun _ => rz) gz gz uz rz gz gz uz rz
theorem ob_new {kk : Nat → ClassId} {h : Nat} {ad : Nat → Nat → Nat} {tx sa ra : Nat} {ma : Nat → Nat → Nat} {b6 b7 : Nat → Nat} : OB kk 0 sgN h (NEWW kk h ad tx sa ra ma b6 b7) := ⟨_, _, _, _, _, _, _, _, _, _, _, _, _, _, _, _, _, _, _, _, _, _, _, _, _, _, _, _, _, rfl, obf_new⟩
theorem good_first {x y z : Int32} : GOOD (sPush sgN (ADDF sgN.1 x y z)) := by
  have m1 : mF (ADDF sgN.1 x y z) = 1 := mF_add (B := 0) (m := 0) ok_new x y z
  refine ⟨by show 1 ≤ mF (ADDF sgN.1 x y z); omega, fun p hp1 hp2 => ?_, fun _ _ => ?_, fun fs h => (by cases h), fun fs h => (by cases h), push_le⟩
  · have hp2 : p < pushC 0 := hp2
    have e : pushC 0 = 1 := rfl
    omega
  · show mF (if pushC 0 = 1 then ADDF sgN.1 x y z else pushR 0 sgN.2.2.1 sgN.1 1) ≤ 1
    rw [if_pos (show pushC 0 = 1 from rfl), m1]
    exact Nat.le_refl _
theorem n_of {r : Int32} (h : 0 ≤ r.toInt) : ∃ v, v < 2147483648 ∧ r = nI v := by
  have h2 := r.toInt_lt
  exact ⟨r.toInt.toNat, by omega, Int32.toInt_inj.mp (by rw [nI_toInt (by omega)]; omega)⟩
section CELLK
variable {p : Program} {l : Launch} {e : Env} {R : Room} {s : State} {m : MethodId} {args : Array Value} {below : List Frame} {meth : Method} {c : Code} {H : Heap} {locs : List Loc} {cells slots : Nat} {Q : State → Prop}
variable {cc : ByteArray} {pc nL : Nat} {ls : Array Slot} {rest st0 : List Value} {G : va_G} {kk : Nat → ClassId} {A : Nat → Prop} {ws : va_W} {own : String} {index sb L : Nat} {xs : Nat → Int32}
/-- a number of the script -/
theorem k_cell (k : Nat) (X : LM p l e R s m args below meth c cc nL own G kk A) (hP : va_P G vwCl ws H) (hD : va_D A ws) (hS : va_S A s.heap H locs) (hl : ls.size = nL)
    (hX : va_X sb L xs s s.heap) (hbl : sb < s.heap.size) (hbA : ¬ A sb) (hL : L ≤ 260) (hk : k < 1000) (vl : SL own index yL_cell cL_cell 2 (some .int) 2) (hrm : RG (rmO 0 0) R 2 0 0)
    (hcs : cells ≤ R.cells ∧ slots ≤ R.slots) (hst : st0 = ([.ref sb, .int (nI k)] : List Value).reverse ++ rest) (hWr : (rest.map fun v => v.category).sum ≤ 8) (hdg : decode cc pc = .ok (.invokestatic index, 3))
    (k1 : ∀ (v : Nat) (H1 : Heap) (locs1 : List Loc), v < 2147483648 → va_P G vwCl ws H1 → va_D A ws → va_S A s.heap H1 locs1 → W p l e R s m args below meth c H1 locs1 cells slots Q (F0 m (pc + 3) ls (.int (nI v) :: rest))) : W p l e R s m args below meth c H locs cells slots Q (F0 m pc ls st0) := by
  subst hst
  obtain ⟨hx, hb, hml, hown, hts, hK, hA, hE, hN⟩ := X
  obtain ⟨v1, v2, v4, v5, v6, v7, v8⟩ := vl
  refine va_calli (va_runS (Ts := WG) (ws := .code yL_cell cL_cell 2 (some .int) :: WG) (rm := rmO 0 0) (bytes := cL_cell) (maxL := 2) (ret := some .int) (n := 2) (As := [.ref sb, .int (nI k)]) (rest := rest) ⟨hx, hb, hml, hown, hts⟩ (c_cell l hL hk H.size) ?_ ⟨blind_mC, fun U hU hW => ⟨rfl, ⟨by rw [hU], by rw [hU]; exact va_X.moved hW.alike (hX.kept (hS.2.1 sb hbl hbA)), Nat.lt_of_lt_of_le hbl hS.1⟩⟩⟩ rfl rfl hl rfl (lv_room hWr) hdg hcs) hS (fun q h1 h2 => absurd h2 (Nat.not_le.mpr h1)) (fun q h => hA q (Nat.le_trans hS.1 h)) (fun r1 u t H1 locs1 ht hvm hw hB hz hk9 hS1 => ?_)
  · refine va_cwS (ws' := WG) 2 hts (wg_goodIn ?_) rfl hrm.2.2.1 hrm.2.2.2 ⟨v6, v7, v8⟩ ⟨hrm.1, hrm.2.1⟩
    intro w hw
    simp only [va_wsS, List.cons_append, List.nil_append, List.mem_cons] at hw
    rcases hw with rfl | rfl | rfl | rfl | hw
    · exact v1
    · exact v2
    · exact v4
    · exact v5
    · exact hw
  · obtain ⟨v, hv, rfl⟩ := n_of hw
    obtain ⟨h1, h2⟩ := keep_set (wc := []) (w1 := []) hP hD [] rfl rfl (fun q q1 q2 => hk9 q q1 (fun z => q2 (Or.inr z))) (fun k q h => by simp at h)
    exact k1 v H1 locs1 hv h1 h2 hS1
end CELLK
