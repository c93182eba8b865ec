/-! PURE: the operations that change a state -/
def KQ (q q' : Nat → Int32) : Prop := ∀ x, x ≠ 0 → x ≠ 6 → x ≠ 10 → q' x = q x
def addF (f : Nat → Int32) (m : Nat) (x y z : Int32) : Nat → Int32 := sX8_lay (sX8_lay (sX8_lay (sX8_lay (sX8_lay (sX8_lay (sX8_lay (sX8_lay (sX8_lay (sX8_lay (sX8_lay (sX8_lay f m 0 0) m 1 0) m 2 0) m 3 0) m 4 0) m 5 0) m 6 0) m 7 0) m 0 x) m 1 y) m 2 z) m 3 y
theorem h1_self {a : Int32} (h : ¬ a = 0) : 1 = h1 a a := by
  unfold h1
  rw [if_neg h, if_pos rfl]
theorem KQ.of1 {q q' : Nat → Int32} {v : Int32} (h : ∀ x, x ≠ 6 → q' x = upd q 0 v x) : KQ q q' := fun x h0 h6 _ => by rw [h x h6, pk_un h0]
section P10
variable {f g u : Nat → Int32} {rv : Nat → Nat → Int32} {B m cc : Nat} {mq : Nat → Int32} {r : Nat → Nat} {mg mu : Nat → Nat → Int32} {mr : Nat → Nat → Nat → Int32} {q tx ft dy kp ik jb : Nat → Int32}
theorem addF_in (f : Nat → Int32) (m : Nat) (x y z : Int32) : addF f m x y z (16 + 8 * m + 0) = x ∧ addF f m x y z (16 + 8 * m + 1) = y ∧ addF f m x y z (16 + 8 * m + 2) = z ∧ addF f m x y z (16 + 8 * m + 3) = y ∧ addF f m x y z (16 + 8 * m + 4) = 0 ∧ addF f m x y z (16 + 8 * m + 5) = 0 ∧ addF f m x y z (16 + 8 * m + 6) = 0 ∧ addF f m x y z (16 + 8 * m + 7) = 0 := by
  unfold addF sX8_lay
  refine ⟨?_, ?_, ?_, ?_, ?_, ?_, ?_, ?_⟩ <;> simp (disch := omega) only [pk_un, pk_us]
theorem addF_out {f : Nat → Int32} {m : Nat} {x y z : Int32} {k : Nat} (h : k < 16 + 8 * m ∨ 16 + 8 * m + 7 < k) : addF f m x y z k = f k := by
  unfold addF sX8_lay
  simp (disch := omega) only [pk_un]
theorem fill_at (r : Nat → Int32) (x y z : Int32) : sX2_fill r x y z 0 = r 0 ∧ sX2_fill r x y z 1 = x ∧ sX2_fill r x y z 2 = y ∧ sX2_fill r x y z 3 = z ∧ sX2_fill r x y z 4 = y ∧ sX2_fill r x y z 5 = 0 ∧ sX2_fill r x y z 6 = 0 ∧ sX2_fill r x y z 7 = 0 ∧ sX2_fill r x y z 8 = 0 := by
  unfold sX2_fill
  refine ⟨?_, ?_, ?_, ?_, ?_, ?_, ?_, ?_, ?_⟩ <;> simp (disch := omega) only [pk_un, pk_us]
theorem addOn_eq (f : Nat → Int32) (n : Nat) (x y z : Int32) : sX8_addOn f n x y z = (nI n, upd (addF f n x y z) 0 (addF f n x y z 0 + 1)) := rfl
/-- a room is taken in -/
theorem add_st (sr : SM f g u rv) (ok : OKs B m f) (hm : m < 6) {x y z : Int32} (hx : 1 ≤ x.toInt ∧ x.toInt ≤ 50) (hy : -300 ≤ y.toInt ∧ y.toInt ≤ 200) (hz : y.toInt + 1 ≤ z.toInt ∧ z.toInt ≤ 200) : SM (upd (addF f m x y z) 0 (addF f m x y z 0 + 1)) g u (updR rv m (sX2_fill (rv m) x y z)) ∧ OKs B (m + 1) (upd (addF f m x y z) 0 (addF f m x y z 0 + 1)) := by
  obtain ⟨b0, b1, b2, b3, b4, b5, b6, b7⟩ := addF_in f m x y z
  obtain ⟨c0, c1, c2, c3, c4, c5, c6, c7, c8⟩ := fill_at (rv m) x y z
  have out : ∀ k, k ≠ 0 → (k < 16 + 8 * m ∨ 16 + 8 * m + 7 < k) → upd (addF f m x y z) 0 (addF f m x y z 0 + 1) k = f k := fun k h0 h => by rw [pk_un h0, addF_out h]
  have inn : ∀ w, upd (addF f m x y z) 0 (addF f m x y z 0 + 1) (16 + 8 * m + w) = addF f m x y z (16 + 8 * m + w) := fun w => pk_un (by omega)
  have f0 : upd (addF f m x y z) 0 (addF f m x y z 0 + 1) 0 = nI (m + 1) := by
    rw [pk_us, addF_out (Or.inl (by omega)), ok.2.1]; exact nI_1 m
  generalize hF : upd (addF f m x y z) 0 (addF f m x y z 0 + 1) = F at out inn f0 ⊢
  obtain ⟨a1, a2, a3, a4, a5, a6, a7, a8, a9, a10, a11⟩ := ok
  refine ⟨⟨fun k h1 h2 => ?_, fun k hk => ?_, fun i hi => ?_, fun i w hi hw => ?_⟩, by omega, f0, ?_, ?_, ?_, ?_, ?_, ?_, ?_, ?_, fun i hi => ?_⟩
  · rw [out k (by omega) (Or.inl (by omega))]; exact sr.1 k h1 h2
  · rw [out _ (by omega) (Or.inl (by omega))]; exact sr.2.1 k hk
  · by_cases him : i = m
    · subst him
      rw [updR_s, c0]; exact sr.2.2.1 i hi
    · rw [updR_n him]; exact sr.2.2.1 i hi
  · by_cases him : i = m
    · subst him
      rw [updR_s, inn w]
      refine eight (P := fun w => sX2_fill (rv i) x y z (1 + w) = addF f i x y z (16 + 8 * i + w)) ?_ ?_ ?_ ?_ ?_ ?_ ?_ ?_ hw
      · exact c1.trans b0.symm
      · exact c2.trans b1.symm
      · exact c3.trans b2.symm
      · exact c4.trans b3.symm
      · exact c5.trans b4.symm
      · exact c6.trans b5.symm
      · exact c7.trans b6.symm
      · exact c8.trans b7.symm
    · rw [updR_n him, out _ (by omega) (by omega)]; exact sr.2.2.2 i w hi hw
  · rw [out _ (by omega) (Or.inl (by omega))]; exact a3
  · rw [out _ (by omega) (Or.inl (by omega))]; exact a4
  · rw [out _ (by omega) (Or.inl (by omega))]; exact a5
  · rw [out _ (by omega) (Or.inl (by omega))]; exact a6
  · rw [out _ (by omega) (Or.inl (by omega))]; exact a7
  · rw [out _ (by omega) (Or.inl (by omega))]; exact a8
  · rw [out _ (by omega) (Or.inl (by omega))]; exact a9
  · rw [out 1 (by omega) (Or.inl (by omega)), out 2 (by omega) (Or.inl (by omega)), out 5 (by omega) (Or.inl (by omega))]; exact a10
  · by_cases him : i = m
    · subst him
      have e0 : F (16 + 8 * i) = x := (inn 0).trans b0
      have z0 : (0 : Int32).toInt = 0 := rfl
      unfold RO
      rw [e0, inn 4, inn 5, inn 3, inn 2, b4, b5, b3, b2]
      refine ⟨fun _ => hx, fun h => absurd h (by omega), Or.inl rfl, by omega, by omega, fun _ => ⟨by omega, by omega⟩⟩
    · obtain ⟨o1, o2, o3, o4, o5, o6⟩ := a11 i hi
      unfold RO
      rw [out _ (by omega) (by omega), out _ (by omega) (by omega), out _ (by omega) (by omega), out _ (by omega) (by omega), out _ (by omega) (by omega)]
      exact ⟨fun h => o1 (by omega), fun h => o2 (by omega), o3, o4, o5, fun h => o6 (by omega)⟩
def ST (B : Nat) (f g u : Nat → Int32) (rv : Nat → Nat → Int32) : Prop := ∃ m, SM f g u rv ∧ OKs B m f
theorem rem_q (M : MEM B cc mq r mg mu mr (q 6) dy) (sr : SM f g u rv) (ok : OKs B m f) {v : Int32} : ∃ cc' : Nat, MEM B cc' (sX0_remember mq r mg mu mr g u rv cc).1 (sX0_remember mq r mg mu mr g u rv cc).2.1 (sX0_remember mq r mg mu mr g u rv cc).2.2.1 (sX0_remember mq r mg mu mr g u rv cc).2.2.2.1 (sX0_remember mq r mg mu mr g u rv cc).2.2.2.2 ((sX8_remember (upd q 0 v) tx f ft dy kp ik jb cc).1 6) (sX8_remember (upd q 0 v) tx f ft dy kp ik jb cc).2 ∧ (sX8_remember (upd q 0 v) tx f ft dy kp ik jb cc).1 0 = v ∧ KQ q (sX8_remember (upd q 0 v) tx f ft dy kp ik jb cc).1 := by
  obtain ⟨cc', h1, h2⟩ := rem_mem (q := upd q 0 v) (tx := tx) (ft := ft) (kp := kp) (ik := ik) (jb := jb) (cc := cc) (show MEM B cc mq r mg mu mr (upd q 0 v 6) dy from M) sr ok
  exact ⟨cc', h1, (h2 0 (by decide)).trans pk_us, KQ.of1 h2⟩
theorem KQ.one (q : Nat → Int32) (v : Int32) : KQ q (upd q 0 v) := KQ.of1 (fun _ _ => rfl)
theorem not_z {a b : Prop} (h : ¬ (a ↔ b)) (h2 : a ↔ b) : False := h h2
theorem op_add (M : MEM B cc mq r mg mu mr (q 6) dy) (sr : SM f g u rv) (ok : OKs B m f) (x y z : Int32) :
    EQOP 1 (sX7_add mq r mg mu mr g u rv cc x y z).1 (sX7_add mq r mg mu mr g u rv cc x y z).2.1 ((sX8_add q tx f ft dy kp ik jb m x y z cc).2.1 0) (sX8_add q tx f ft dy kp ik jb m x y z cc).1 ∧
    (∃ cc', MEM B cc' (sX7_add mq r mg mu mr g u rv cc x y z).2.2.1 (sX7_add mq r mg mu mr g u rv cc x y z).2.2.2.1 (sX7_add mq r mg mu mr g u rv cc x y z).2.2.2.2.1 (sX7_add mq r mg mu mr g u rv cc x y z).2.2.2.2.2.1 (sX7_add mq r mg mu mr g u rv cc x y z).2.2.2.2.2.2.1 ((sX8_add q tx f ft dy kp ik jb m x y z cc).2.1 6) (sX8_add q tx f ft dy kp ik jb m x y z cc).2.2.2) ∧
    ST B (sX8_add q tx f ft dy kp ik jb m x y z cc).2.2.1 g u (sX7_add mq r mg mu mr g u rv cc x y z).2.2.2.2.2.2.2 ∧ KQ q (sX8_add q tx f ft dy kp ik jb m x y z cc).2.1 := by
  by_cases hN : sX8_isNew x y z = 0
  · have eC : sX7_add mq r mg mu mr g u rv cc x y z = (1, 0, mq, r, mg, mu, mr, rv) := if_pos ((new_iff x y z).mpr hN)
    have eR : sX8_add q tx f ft dy kp ik jb m x y z cc = (0, upd q 0 1, f, dy) := if_pos hN
    rw [eC, eR]
    dsimp only
    exact ⟨⟨pk_us, fun h => absurd h (by decide)⟩, ⟨cc, M⟩, ⟨m, sr, ok⟩, KQ.one q 1⟩
  · have hN' : ¬ sX5_canBeRoom x y z = 0 := fun h => hN ((new_iff x y z).mp h)
    by_cases h6 : (6 : Int32) ≤ f 0
    · have hm := (six0_iff ok).mp h6
      have eC : sX7_add mq r mg mu mr g u rv cc x y z = (2, 0, mq, r, mg, mu, mr, rv) := by
        unfold sX7_add
        rw [if_neg hN', firstFree_eq sr ok, if_neg hm]; rfl
      have eR : sX8_add q tx f ft dy kp ik jb m x y z cc = (0, upd q 0 2, f, dy) := by
        unfold sX8_add
        rw [if_neg hN, if_pos h6]
      rw [eC, eR]
      dsimp only
      exact ⟨⟨pk_us, fun h => absurd h (by decide)⟩, ⟨cc, M⟩, ⟨m, sr, ok⟩, KQ.one q 2⟩
    · have hm : m < 6 := by
        by_cases hq : m < 6
        · exact hq
        · exact absurd ((six0_iff ok).mpr hq) h6
      have hT : sX5_takeRoom g u rv x y z = (nI m, updR rv m (sX2_fill (rv m) x y z)) := by
        unfold sX5_takeRoom
        rw [firstFree_eq sr ok, if_pos hm]
        show (if sX5_canBeRoom x y z = 0 then _ else _) = _
        rw [if_neg hN']
        unfold sX5_takeRoom_z_3
        rw [(fill_at (rv m) x y z).1, sr.2.2.1 m hm]
      have eC : sX7_add mq r mg mu mr g u rv cc x y z = sX7_add_z_4 mq r mg mu mr g u rv cc x y z m (sX0_remember mq r mg mu mr g u rv cc) (nI m, updR rv m (sX2_fill (rv m) x y z)) := by
        unfold sX7_add
        rw [if_neg hN', firstFree_eq sr ok, if_pos hm]
        show sX7_add_z_3 mq r mg mu mr g u rv cc x y z m (sX0_remember mq r mg mu mr g u rv cc) = _
        unfold sX7_add_z_3
        rw [hT]
      have eR : sX8_add q tx f ft dy kp ik jb m x y z cc = sX8_add_z_2 q tx f ft dy kp ik jb m x y z cc (sX8_remember (upd q 0 0) tx f ft dy kp ik jb cc) (nI m, upd (addF f m x y z) 0 (addF f m x y z 0 + 1)) := by
        unfold sX8_add
        rw [if_neg hN, if_neg h6]
        unfold sX8_add_z_1
        rw [addOn_eq]
      obtain ⟨cc', m1, m2, m3⟩ := rem_q (q := q) (tx := tx) (ft := ft) (kp := kp) (ik := ik) (jb := jb) (v := 0) M sr ok
      have hb : (1 ≤ x.toInt ∧ x.toInt ≤ 50) ∧ (-300 ≤ y.toInt ∧ y.toInt ≤ 200) ∧ (y.toInt + 1 ≤ z.toInt ∧ z.toInt ≤ 200) := by
        by_cases hq : (1 ≤ x.toInt ∧ x.toInt ≤ 50) ∧ (-300 ≤ y.toInt ∧ y.toInt ≤ 200) ∧ (y.toInt + 1 ≤ z.toInt ∧ z.toInt ≤ 200)
        · exact hq
        · exact absurd ((new_t x y z).mpr hq) hN
      have hS := add_st sr ok hm hb.1 hb.2.1 hb.2.2
      rw [eC, eR]
      exact ⟨⟨m2, fun _ => rfl⟩, ⟨cc', m1⟩, ⟨m + 1, hS⟩, m3⟩
theorem roomAt_n (sr : SM f g u rv) (ok : OKs B m f) {i : Int32} (h : sX8_isRoom f i = 0) : sX5_roomAt g u rv i = none := by rw [roomAt_eq sr ok, if_pos h]
theorem roomAt_s (sr : SM f g u rv) (ok : OKs B m f) {i : Int32} (h : ¬ sX8_isRoom f i = 0) : sX5_roomAt g u rv i = some i.toNatClampNeg := by rw [roomAt_eq sr ok, if_neg h]
/-- the open doors are counted -/
theorem doors_eq (sr : SM f g u rv) (ok : OKs B m f) (a b : Nat → Int32) (n0 i0 : Nat) (o0 x0 : Int32) : ∀ (d i : Nat) (t : Int32), i + d = 6 → (lp_X8_doorOn_20 a n0 i0 o0 x0 f (m - i) i t).1 = lp_X5_openDoors_13 g u rv d i t
  | 0, i, t, hd => by
    have := ok.1
    rw [show m - i = 0 by omega]; rfl
  | d + 1, i, t, hd => by
    show _ = lp_X5_openDoors_13 g u rv d (i + 1) (if sX2_isThere (rv i) = 0 then t else if rv i 5 = 0 then t else t + 1)
    by_cases h : i < m
    · have hth : ¬ sX2_isThere (rv i) = 0 := fun z => by
        have := (there_iff sr ok (by omega)).mp z
        omega
      rw [if_neg hth, show m - i = (m - (i + 1)) + 1 by omega]
      show (lp_X8_doorOn_20 a n0 i0 o0 x0 f (m - (i + 1)) (i + 1) (t + f (16 + 8 * i + 4))).1 = _
      have e5 : rv i 5 = f (16 + 8 * i + 4) := sr.2.2.2 i 4 (by omega) (by decide)
      have ht : (if rv i 5 = 0 then t else t + 1) = t + f (16 + 8 * i + 4) := by
        rw [e5]
        rcases (ok.2.2.2.2.2.2.2.2.2.2 i (by omega)).2.2.1 with z | z
        · rw [z, if_pos rfl, Int32.add_zero]
        · rw [z, if_neg (by decide)]
      rw [ht]
      exact doors_eq sr ok a b n0 i0 o0 x0 d (i + 1) _ (by omega)
    · have hth : sX2_isThere (rv i) = 0 := (there_iff sr ok (by omega)).mpr (by omega)
      rw [if_pos hth, show m - i = m - (i + 1) by omega]
      have h0 : m - (i + 1) = 0 := by omega
      have := doors_eq sr ok a b n0 i0 o0 x0 d (i + 1) t (by omega)
      rw [← this, h0]
      rfl
theorem doors_2 (f : Nat → Int32) (n i0 : Nat) (o x1 : Int32) (z2 : Nat → Int32) : ∀ (d i : Nat) (t : Int32), (lp_X8_doorOn_20 f n i0 o x1 z2 d i t).2 = z2
  | 0, i, t => rfl
  | d + 1, i, t => doors_2 f n i0 o x1 z2 d (i + 1) _
theorem op_door (M : MEM B cc mq r mg mu mr (q 6) dy) (sr : SM f g u rv) (ok : OKs B m f) (x : Int32) {y : Int32} (hy : zb y) :
    EQOP 3 (sX7_door mq r mg mu mr g u rv cc x y).1 (sX7_door mq r mg mu mr g u rv cc x y).2.1 ((sX8_door q tx f ft dy kp ik jb m x y cc).2.1 0) (sX8_door q tx f ft dy kp ik jb m x y cc).1 ∧
    (∃ cc', MEM B cc' (sX7_door mq r mg mu mr g u rv cc x y).2.2.1 (sX7_door mq r mg mu mr g u rv cc x y).2.2.2.1 (sX7_door mq r mg mu mr g u rv cc x y).2.2.2.2.1 (sX7_door mq r mg mu mr g u rv cc x y).2.2.2.2.2.1 (sX7_door mq r mg mu mr g u rv cc x y).2.2.2.2.2.2.1 ((sX8_door q tx f ft dy kp ik jb m x y cc).2.1 6) (sX8_door q tx f ft dy kp ik jb m x y cc).2.2.2) ∧
    ST B (sX8_door q tx f ft dy kp ik jb m x y cc).2.2.1 g u (sX7_door mq r mg mu mr g u rv cc x y).2.2.2.2.2.2.2 ∧ KQ q (sX8_door q tx f ft dy kp ik jb m x y cc).2.1 := by
  by_cases hR : sX8_isRoom f x = 0
  · have eC : sX7_door mq r mg mu mr g u rv cc x y = (3, 0, mq, r, mg, mu, mr, rv) := oe_n (roomAt_n sr ok hR)
    have eR : sX8_door q tx f ft dy kp ik jb m x y cc = (0, upd q 0 1, f, dy) := if_pos hR
    rw [eC, eR]
    dsimp only
    exact ⟨⟨pk_us, fun h => absurd h (by decide)⟩, ⟨cc, M⟩, ⟨m, sr, ok⟩, KQ.one q 1⟩
  · obtain ⟨hk, hk6⟩ := isr_n ok hR
    have hT : sX5_moveDoor g u rv x y = (1, updR rv x.toNatClampNeg (upd (rv x.toNatClampNeg) 5 y)) := oe_s (roomAt_s sr ok hR)
    have hxy : (if y = 0 then 0 else 1 : Int32) = y := by
      rcases hy with h | h <;> subst h <;> rfl
    have s1 : SM (sX8_lay f x.toNatClampNeg 4 y) g u (updR rv x.toNatClampNeg (upd (rv x.toNatClampNeg) 5 y)) := sm_room sr hk6 (w := 4) (by decide) y
    have s2 := ok_door ok hk6 hy
    have hD : sX8_doorOn f m x.toNatClampNeg y = (sX5_openDoors g u (updR rv x.toNatClampNeg (upd (rv x.toNatClampNeg) 5 y)), sX8_lay f x.toNatClampNeg 4 y) := by
      unfold sX8_doorOn sX8_doorOn_j12 sX8_doorOn_z_2
      rw [hxy]
      have d1 := doors_eq s1 s2 f f m x.toNatClampNeg y y 6 0 0 rfl
      have d2 := doors_2 f m x.toNatClampNeg y y (sX8_lay f x.toNatClampNeg 4 y) m 0 0
      rw [Nat.sub_zero] at d1
      unfold sX5_openDoors
      rw [← d1]
      generalize lp_X8_doorOn_20 f m x.toNatClampNeg y y (sX8_lay f x.toNatClampNeg 4 y) m 0 0 = zz at d2 ⊢
      rw [← d2]
    have eC : sX7_door mq r mg mu mr g u rv cc x y = sX7_door_z_4 mq r mg mu mr g u rv cc x y x.toNatClampNeg (sX0_remember mq r mg mu mr g u rv cc) (1, updR rv x.toNatClampNeg (upd (rv x.toNatClampNeg) 5 y)) := by
      refine (oe_s (roomAt_s sr ok hR)).trans ?_
      unfold sX7_door_z_3
      rw [hT]
    have eR : sX8_door q tx f ft dy kp ik jb m x y cc = sX8_door_z_2 q tx f ft dy kp ik jb m x y cc (sX8_remember (upd q 0 0) tx f ft dy kp ik jb cc) (sX5_openDoors g u (updR rv x.toNatClampNeg (upd (rv x.toNatClampNeg) 5 y)), sX8_lay f x.toNatClampNeg 4 y) := by
      unfold sX8_door
      rw [if_neg hR]
      unfold sX8_door_z_1
      rw [hD]
    obtain ⟨cc', m1, m2, m3⟩ := rem_q (q := q) (tx := tx) (ft := ft) (kp := kp) (ik := ik) (jb := jb) (v := 0) M sr ok
    rw [eC, eR]
    exact ⟨⟨m2, fun _ => rfl⟩, ⟨cc', m1⟩, ⟨m, s1, s2⟩, m3⟩
theorem op_goods (M : MEM B cc mq r mg mu mr (q 6) dy) (sr : SM f g u rv) (ok : OKs B m f) (x y : Int32) :
    EQOP 3 (sX7_goods mq r mg mu mr g u rv cc x y).1 (sX7_goods mq r mg mu mr g u rv cc x y).2.1 ((sX8_goods q tx f ft dy kp ik jb m x y cc).2.1 0) (sX8_goods q tx f ft dy kp ik jb m x y cc).1 ∧
    (∃ cc', MEM B cc' (sX7_goods mq r mg mu mr g u rv cc x y).2.2.1 (sX7_goods mq r mg mu mr g u rv cc x y).2.2.2.1 (sX7_goods mq r mg mu mr g u rv cc x y).2.2.2.2.1 (sX7_goods mq r mg mu mr g u rv cc x y).2.2.2.2.2.1 (sX7_goods mq r mg mu mr g u rv cc x y).2.2.2.2.2.2.1 ((sX8_goods q tx f ft dy kp ik jb m x y cc).2.1 6) (sX8_goods q tx f ft dy kp ik jb m x y cc).2.2.2) ∧
    ST B (sX8_goods q tx f ft dy kp ik jb m x y cc).2.2.1 g u (sX7_goods mq r mg mu mr g u rv cc x y).2.2.2.2.2.2.2 ∧ KQ q (sX8_goods q tx f ft dy kp ik jb m x y cc).2.1 := by
  by_cases hR : sX8_isRoom f x = 0
  · have eC : sX7_goods mq r mg mu mr g u rv cc x y = (3, 0, mq, r, mg, mu, mr, rv) := oe_n (roomAt_n sr ok hR)
    have eR : sX8_goods q tx f ft dy kp ik jb m x y cc = (0, upd q 0 1, f, dy) := if_pos hR
    rw [eC, eR]
    dsimp only
    exact ⟨⟨pk_us, fun h => absurd h (by decide)⟩, ⟨cc, M⟩, ⟨m, sr, ok⟩, KQ.one q 1⟩
  · obtain ⟨hk, hk6⟩ := isr_n ok hR
    by_cases hV : sX8_in y.toInt64 (-400) 400 = 0
    · have eC : sX7_goods mq r mg mu mr g u rv cc x y = (1, 0, mq, r, mg, mu, mr, rv) := (oe_s (roomAt_s sr ok hR)).trans (if_pos ((temp_iff y).mpr hV))
      have eR : sX8_goods q tx f ft dy kp ik jb m x y cc = (0, upd q 0 2, f, dy) := (if_neg hR).trans (if_pos hV)
      rw [eC, eR]
      dsimp only
      exact ⟨⟨pk_us, fun h => absurd h (by decide)⟩, ⟨cc, M⟩, ⟨m, sr, ok⟩, KQ.one q 2⟩
    · have hV' : ¬ sX5_canBeTemperature y = 0 := fun h => hV ((temp_iff y).mp h)
      have hb : -400 ≤ y.toInt ∧ y.toInt ≤ 400 := by
        by_cases hq : -400 ≤ y.toInt ∧ y.toInt ≤ 400
        · exact hq
        · exact absurd ((in32 (a := -400) (b := 400) rfl rfl).mpr hq) hV
      have hT : sX5_takeGoods g u rv x y = (1, updR rv x.toNatClampNeg (upd (rv x.toNatClampNeg) 4 y)) := (oe_s (roomAt_s sr ok hR)).trans (if_neg hV')
      have s1 : SM (sX8_lay f x.toNatClampNeg 3 y) g u (updR rv x.toNatClampNeg (upd (rv x.toNatClampNeg) 4 y)) := sm_room sr hk6 (w := 3) (by decide) y
      have s2 := ok_temp ok hk6 hb
      have eC : sX7_goods mq r mg mu mr g u rv cc x y = sX7_goods_z_4 mq r mg mu mr g u rv cc x y x.toNatClampNeg (sX0_remember mq r mg mu mr g u rv cc) (1, updR rv x.toNatClampNeg (upd (rv x.toNatClampNeg) 4 y)) := by
        have e1 : sX7_goods mq r mg mu mr g u rv cc x y = (if sX5_canBeTemperature y = 0 then (1, 0, mq, r, mg, mu, mr, rv) else sX7_goods_z_3 mq r mg mu mr g u rv cc x y x.toNatClampNeg (sX0_remember mq r mg mu mr g u rv cc)) := oe_s (roomAt_s sr ok hR)
        rw [e1, if_neg hV']
        unfold sX7_goods_z_3
        rw [hT]
      have eR : sX8_goods q tx f ft dy kp ik jb m x y cc = sX8_goods_z_2 q tx f ft dy kp ik jb m x y cc (sX8_remember (upd q 0 0) tx f ft dy kp ik jb cc) (f (16 + 8 * x.toNatClampNeg + 3), sX8_lay f x.toNatClampNeg 3 y) := (if_neg hR).trans (if_neg hV)
      obtain ⟨cc', m1, m2, m3⟩ := rem_q (q := q) (tx := tx) (ft := ft) (kp := kp) (ik := ik) (jb := jb) (v := 0) M sr ok
      rw [eC, eR]
      exact ⟨⟨m2, fun _ => sr.2.2.2 _ 3 hk6 (by decide)⟩, ⟨cc', m1⟩, ⟨m, s1, s2⟩, m3⟩
theorem op_set (M : MEM B cc mq r mg mu mr (q 6) dy) (sr : SM f g u rv) (ok : OKs B m f) (x y : Int32) :
    EQOP 1 (sX7_set mq r mg mu mr g u rv cc x y).1 (sX7_set mq r mg mu mr g u rv cc x y).2.1 ((sX8_set q tx f ft dy kp ik jb x y cc).2.1 0) (sX8_set q tx f ft dy kp ik jb x y cc).1 ∧
    (∃ cc', MEM B cc' (sX7_set mq r mg mu mr g u rv cc x y).2.2.1 (sX7_set mq r mg mu mr g u rv cc x y).2.2.2.1 (sX7_set mq r mg mu mr g u rv cc x y).2.2.2.2.1 (sX7_set mq r mg mu mr g u rv cc x y).2.2.2.2.2.1 (sX7_set mq r mg mu mr g u rv cc x y).2.2.2.2.2.2.1 ((sX8_set q tx f ft dy kp ik jb x y cc).2.1 6) (sX8_set q tx f ft dy kp ik jb x y cc).2.2.2) ∧
    ST B (sX8_set q tx f ft dy kp ik jb x y cc).2.2.1 g (sX7_set mq r mg mu mr g u rv cc x y).2.2.2.2.2.2.2 rv ∧ KQ q (sX8_set q tx f ft dy kp ik jb x y cc).2.1 := by
  by_cases hA : sX8_isSetting x y = 0
  · have eC : sX7_set mq r mg mu mr g u rv cc x y = (1, 0, mq, r, mg, mu, mr, u) := if_pos ((all_iff x y).mpr hA)
    have eR : sX8_set q tx f ft dy kp ik jb x y cc = (0, upd q 0 1, f, dy) := if_pos hA
    rw [eC, eR]
    dsimp only
    exact ⟨⟨pk_us, fun h => absurd h (by decide)⟩, ⟨cc, M⟩, ⟨m, sr, ok⟩, KQ.one q 1⟩
  · have hA' : ¬ sX3_isAllowed x y = 0 := fun h => hA ((all_iff x y).mp h)
    have hb : (0 ≤ x.toInt ∧ x.toInt ≤ 5) ∧ slo x ≤ y.toInt ∧ y.toInt ≤ shi x := by
      by_cases hq : (0 ≤ x.toInt ∧ x.toInt ≤ 5) ∧ slo x ≤ y.toInt ∧ y.toInt ≤ shi x
      · exact hq
      · exact absurd ((all_m x y).mpr hq) hA
    have s1 := set_ok sr ok hb.1 hb.2.1 hb.2.2
    have hT : sX5_changeSetting g u rv x y = (1, sX3_change u x y) := if_neg hA'
    have eC : sX7_set mq r mg mu mr g u rv cc x y = sX7_set_z_2 mq r mg mu mr g u rv cc x y (sX0_remember mq r mg mu mr g u rv cc) (1, sX3_change u x y) := by
      refine (if_neg hA').trans ?_
      unfold sX7_set_z_1
      rw [hT]
    have eR : sX8_set q tx f ft dy kp ik jb x y cc = sX8_set_z_1 q tx f ft dy kp ik jb x y cc (sX8_remember (upd q 0 0) tx f ft dy kp ik jb cc) := if_neg hA
    obtain ⟨cc', m1, m2, m3⟩ := rem_q (q := q) (tx := tx) (ft := ft) (kp := kp) (ik := ik) (jb := jb) (v := 0) M sr ok
    rw [eC, eR]
    exact ⟨⟨m2, fun _ => val_eq sr ((set_w x).mp hb.1)⟩, ⟨cc', m1⟩, ⟨m, s1.1, s1.2⟩, m3⟩
theorem op_run (hB : B ≤ 99000) (M : MEM B cc mq r mg mu mr (q 6) dy) (sr : SM f g u rv) (ok : OKs B m f) (x : Int32) :
    EQOP 1 (sX7_run mq r mg mu mr g u rv cc x).1 (sX7_run mq r mg mu mr g u rv cc x).2.1 ((sX8_run q tx f ft dy kp ik jb m x cc).2.1 0) (sX8_run q tx f ft dy kp ik jb m x cc).1 ∧
    (∃ cc', MEM B cc' (sX7_run mq r mg mu mr g u rv cc x).2.2.1 (sX7_run mq r mg mu mr g u rv cc x).2.2.2.1 (sX7_run mq r mg mu mr g u rv cc x).2.2.2.2.1 (sX7_run mq r mg mu mr g u rv cc x).2.2.2.2.2.1 (sX7_run mq r mg mu mr g u rv cc x).2.2.2.2.2.2.1 ((sX8_run q tx f ft dy kp ik jb m x cc).2.1 6) (sX8_run q tx f ft dy kp ik jb m x cc).2.2.2.1) ∧
    ST (B + 60) (sX8_run q tx f ft dy kp ik jb m x cc).2.2.1 (sX7_run mq r mg mu mr g u rv cc x).2.2.2.2.2.2.2.1 u (sX7_run mq r mg mu mr g u rv cc x).2.2.2.2.2.2.2.2 ∧ KQ q (sX8_run q tx f ft dy kp ik jb m x cc).2.1 := by
  by_cases hA : sX8_in x.toInt64 1 60 = 0
  · have eC : sX7_run mq r mg mu mr g u rv cc x = (1, 0, mq, r, mg, mu, mr, g, rv) := if_pos ((pass_iff x).mpr hA)
    have eR : sX8_run q tx f ft dy kp ik jb m x cc = (0, upd q 0 1, f, dy, jb) := if_pos hA
    rw [eC, eR]
    dsimp only
    exact ⟨⟨pk_us, fun h => absurd h (by decide)⟩, ⟨cc, M⟩, ⟨m, sr, ok.mono (Nat.le_add_right _ _)⟩, KQ.one q 1⟩
  · have hA' : ¬ sX5_canPass x = 0 := fun h => hA ((pass_iff x).mp h)
    have hb : 1 ≤ x.toInt ∧ x.toInt ≤ 60 := by
      by_cases hq : 1 ≤ x.toInt ∧ x.toInt ≤ 60
      · exact hq
      · exact absurd ((in32 (a := 1) (b := 60) rfl rfl).mpr hq) hA
    have hn : x.toNatClampNeg ≤ 60 := by rw [tc_n]; omega
    obtain ⟨cc', m1, m2, m3⟩ := rem_q (q := q) (tx := tx) (ft := ft) (kp := kp) (ik := ik) (jb := jb) (v := 0) M sr ok
    have eC : sX7_run mq r mg mu mr g u rv cc x = sX7_run_z_2 mq r mg mu mr g u rv cc x (sX0_remember mq r mg mu mr g u rv cc) (sX5_passMinutes g u rv x) := if_neg hA'
    have eR : sX8_run q tx f ft dy kp ik jb m x cc = sX8_run_z_1 q tx f ft dy kp ik jb m x cc (sX8_remember (upd q 0 0) tx f ft dy kp ik jb cc) := if_neg hA
    rw [eC, eR]
    generalize sX8_remember (upd q 0 0) tx f ft dy kp ik jb cc = z1 at m1 m2 m3 ⊢
    generalize sX0_remember mq r mg mu mr g u rv cc = y1 at m1 ⊢
    have hP : sX5_passMinutes g u rv x = (1, (cit u x.toNatClampNeg (g, rv)).1, (cit u x.toNatClampNeg (g, rv)).2) := (if_neg hA').trans (pm_cit x.toNatClampNeg 0 g rv)
    have hR : sX8_runOn z1.1 jb f x m = ((mit m x.toNatClampNeg (z1.1, jb, f)).2.2 5 - f 5, (mit m x.toNatClampNeg (z1.1, jb, f)).1, (mit m x.toNatClampNeg (z1.1, jb, f)).2.1, (mit m x.toNatClampNeg (z1.1, jb, f)).2.2) := rn_mit x.toNatClampNeg 0 z1.1 jb f
    obtain ⟨i1, i2, i3⟩ := it_eq x.toNatClampNeg B g rv z1.1 jb f (by omega) sr ok
    have iq := mit_q (m := m) x.toNatClampNeg z1.1 jb f
    rw [hP]
    unfold sX8_run_z_1
    rw [hR]
    generalize mit m x.toNatClampNeg (z1.1, jb, f) = z3 at i1 i2 i3 iq ⊢
    generalize cit u x.toNatClampNeg (g, rv) = y3 at i1 ⊢
    refine ⟨⟨(iq 0 (by decide)).trans m2, fun _ => ?_⟩, ⟨cc', ?_⟩, ⟨m, i1, i2.mono (by omega)⟩, fun k h0 h6 h10 => (iq k h10).trans (m3 k h0 h6 h10)⟩
    · show y3.1 5 - g 5 = z3.2.2 5 - f 5
      rw [i1.1 5 (by decide) (by decide), sr.1 5 (by decide) (by decide)]
    · have e6 : z3.1 6 = z1.1 6 := iq 6 (by decide)
      show MEM B cc' y1.1 y1.2.1 y1.2.2.1 y1.2.2.2.1 y1.2.2.2.2 (z3.1 6) z1.2
      rw [e6]
      exact m1
theorem op_undo (M : MEM B cc mq r mg mu mr (q 6) dy) (sr : SM f g u rv) (ok : OKs B m f) :
    EQOP 2 (sX7_undo mq r mg mu mr g u rv cc).1 (sX7_undo mq r mg mu mr g u rv cc).2.1 ((sX8_undo q tx f ft dy kp ik jb cc).2.1 0) (sX8_undo q tx f ft dy kp ik jb cc).1 ∧
    (∃ cc', MEM B cc' (sX7_undo mq r mg mu mr g u rv cc).2.2.1 r mg mu mr ((sX8_undo q tx f ft dy kp ik jb cc).2.1 6) dy) ∧
    ST B (sX8_undo q tx f ft dy kp ik jb cc).2.2 (sX7_undo mq r mg mu mr g u rv cc).2.2.2.1 (sX7_undo mq r mg mu mr g u rv cc).2.2.2.2.1 (sX7_undo mq r mg mu mr g u rv cc).2.2.2.2.2 ∧ KQ q (sX8_undo q tx f ft dy kp ik jb cc).2.1 := by
  have hmq : mq 1 = nI cc := M.1
  have hq6 : q 6 = nI cc := M.2.1
  have hcc := M.2.2.1
  by_cases hA : cc = 0
  · subst hA
    have eC : sX7_undo mq r mg mu mr g u rv 0 = (2, 0, mq, g, u, rv) := by
      unfold sX7_undo sX0_isEmpty
      rw [hmq]; rfl
    have eR : sX8_undo q tx f ft dy kp ik jb 0 = (0, upd q 0 1, f) := if_pos hq6
    rw [eC, eR]
    dsimp only
    exact ⟨⟨pk_us, fun h => absurd h (by decide)⟩, ⟨0, M⟩, ⟨m, sr, ok⟩, KQ.one q 1⟩
  · have hne : ¬ nI cc = 0 := fun h => hA (nI_inj (b := 0) (by omega) (by decide) h)
    have hle : ¬ nI cc ≤ 0 := fun h => by
      have := (nI_leI (b := 0) (by omega) (by decide)).mp h
      omega
    have c1 : sX0_isEmpty mq = 0 := by
      unfold sX0_isEmpty
      rw [hmq, if_neg hne]
    have eC : sX7_undo mq r mg mu mr g u rv cc = sX7_undo_z_1 mq r mg mu mr g u rv cc (sX0_takeBack_z_1 mq r mg mu mr g u rv cc (sX5_copyFrom g u rv (mg (r (cc - 1))) (mu (r (cc - 1))) (mr (r (cc - 1))))) := by
      refine (if_pos c1).trans ?_
      have : sX0_takeBack mq r mg mu mr g u rv cc = _ := if_neg hle
      rw [this]
    have eR : sX8_undo q tx f ft dy kp ik jb cc = sX8_undo_z_1 q tx f ft dy kp ik jb cc (sX8_copyState (64 * (cc - 1)) 0 dy f) := if_neg (by rw [hq6]; exact hne)
    obtain ⟨a1, a2, a3, a4, a5, a6, a7⟩ := M
    obtain ⟨m', t1, t2⟩ := a7 (cc - 1) (by omega)
    have e : ∀ k, k < 64 → sX8_copyState (64 * (cc - 1)) 0 dy f k = dy (64 * (cc - 1) + k) := fun k hk => by
      have := cp_in (p0 := 64 * (cc - 1)) (q0 := 0) (f := dy) (f2 := f) hk
      rw [Nat.zero_add] at this
      exact this
    have s1 := SM.cg e (cf_sm (g := g) (u := u) t1 sr.2.2.1)
    have s2 := OKs.cg e t2
    rw [eC, eR]
    refine ⟨⟨?_, fun _ => ?_⟩, ⟨cc - 1, ?_, ?_, by omega, a4, a5, a6, fun p hp => a7 p (by omega)⟩, ⟨m', s1, s2⟩, fun k h0 h6 _ => ?_⟩
    · show upd (upd q 0 0) 6 (nI (cc - 1)) 0 = h1 2 0
      rw [pk_un (by decide), pk_us]; rfl
    · show upd mq 1 (nI (cc - 1)) 1 = nI (cc - 1)
      exact pk_us
    · show upd mq 1 (nI (cc - 1)) 1 = nI (cc - 1)
      exact pk_us
    · show upd (upd q 0 0) 6 (nI (cc - 1)) 6 = _
      exact pk_us
    · show upd (upd q 0 0) 6 (nI (cc - 1)) k = _
      rw [pk_un h6, pk_un h0]
end P10
