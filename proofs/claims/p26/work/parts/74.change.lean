/-! PURE: the changes, as values -/
abbrev RW := Nat → Int32
abbrev SG := RW × Nat × (Nat → RW) × Option RW × Option RW
def kI (k : Option RW) : Int32 := match k with
  | none => 0
  | some _ => 1
def SLf (B : Nat) (s g u : Nat → Int32) (rv : Nat → Nat → Int32) (k : Option RW) : Prop := s 1 = kI k ∧ N0 rv ∧ (∀ i, i < 6 → zb (rv i 5)) ∧ ∀ fs, k = some fs → STf B fs g u rv
theorem SLf.mono {B B' : Nat} {s g u : Nat → Int32} {rv : Nat → Nat → Int32} {k : Option RW} (h : B ≤ B') (S : SLf B s g u rv k) : SLf B' s g u rv k := ⟨S.1, S.2.1, S.2.2.1, fun fs hk => (S.2.2.2 fs hk).mono h⟩
def OBF (B : Nat) (σ : SG) (mq : RW) (r : Nat → Nat) (mg mu : Nat → Nat → Int32) (mr : Nat → Nat → Nat → Int32) (s0 g6 u6 : RW) (rv6 : Nat → Nat → Int32) (s1 g7 u7 : RW) (rv7 : Nat → Nat → Int32) (g u : RW) (rv rv4 : Nat → Nat → Int32) : Prop :=
  MEMf B σ.2.1 σ.2.2.1 mq r mg mu mr ∧ SLf B s0 g6 u6 rv6 σ.2.2.2.1 ∧ SLf B s1 g7 u7 rv7 σ.2.2.2.2 ∧ STf B σ.1 g u rv ∧ N0 rv4
def sPush (σ : SG) (f' : RW) : SG := (f', pushC σ.2.1, pushR σ.2.1 σ.2.2.1 σ.1, σ.2.2.2.1, σ.2.2.2.2)
def sUndo (σ : SG) : SG := (σ.2.2.1 (σ.2.1 - 1), σ.2.1 - 1, σ.2.2.1, σ.2.2.2.1, σ.2.2.2.2)
def ADDF (f : RW) (x y z : Int32) : RW := upd (addF f (mF f) x y z) 0 (addF f (mF f) x y z 0 + 1)
section P74
variable {f g u : Nat → Int32} {rv : Nat → Nat → Int32} {B m cc : Nat} {rw_ : Nat → Nat → Int32} {mq : Nat → Int32} {r : Nat → Nat} {mg mu : Nat → Nat → Int32} {mr : Nat → Nat → Nat → Int32} {g4 u4 s0 s1 g6 u6 g7 u7 : Nat → Int32} {rv4 rv6 rv7 : Nat → Nat → Int32}
theorem okx_add (okx : OKX m f) (hm : m < 6) {x y z : Int32} (hy : -300 ≤ y.toInt) (hz : y.toInt + 1 ≤ z.toInt) : OKX (m + 1) (upd (addF f m x y z) 0 (addF f m x y z 0 + 1)) := by
  obtain ⟨b0, b1, b2, b3, b4, b5, b6, b7⟩ := addF_in f m x y z
  intro i hi
  rw [pk_un (by omega), pk_un (by omega), pk_un (by omega)]
  by_cases him : i = m
  · subst him
    have e0 : (0 : Int32).toInt = 0 := rfl
    rw [b1, b2, b6, e0]
    exact ⟨⟨hy, by omega⟩, by omega, by omega⟩
  · rw [addF_out (by omega), addF_out (by omega), addF_out (by omega)]
    exact okx i (by omega)
theorem k_add (M : MEMf B cc rw_ mq r mg mu mr) (sr : SM f g u rv) (ok : OKP B m f) (hm : m < 6) (x y z : Int32) (hx : 1 ≤ x.toInt ∧ x.toInt ≤ 50) (hy : -300 ≤ y.toInt ∧ y.toInt ≤ 200) (hz : y.toInt + 1 ≤ z.toInt ∧ z.toInt ≤ 200) :
    (sX7_add mq r mg mu mr g u rv cc x y z).1 = 0 ∧ (sX7_add mq r mg mu mr g u rv cc x y z).2.1 = nI m ∧ MEMf B (pushC cc) (pushR cc rw_ f) (sX7_add mq r mg mu mr g u rv cc x y z).2.2.1 (sX7_add mq r mg mu mr g u rv cc x y z).2.2.2.1 (sX7_add mq r mg mu mr g u rv cc x y z).2.2.2.2.1 (sX7_add mq r mg mu mr g u rv cc x y z).2.2.2.2.2.1 (sX7_add mq r mg mu mr g u rv cc x y z).2.2.2.2.2.2.1 ∧ STf B (ADDF f x y z) g u (sX7_add mq r mg mu mr g u rv cc x y z).2.2.2.2.2.2.2 := by
  have hN' : ¬ sX5_canBeRoom x y z = 0 := fun h => (new_t x y z).mp ((new_iff x y z).mp h) ⟨hx, hy, hz⟩
  have hT : sX5_takeRoom g u rv x y z = (nI m, updR rv m (sX2_fill (rv m) x y z)) := by
    unfold sX5_takeRoom
    rw [firstFree_eq sr ok.1, if_pos hm]
    show (if sX5_canBeRoom x y z = 0 then _ else _) = _
    rw [if_neg hN']
    unfold sX5_takeRoom_z_3
    rw [(fill_at (rv m) x y z).1, sr.2.2.1 m hm]
  have eC : sX7_add mq r mg mu mr g u rv cc x y z = sX7_add_z_4 mq r mg mu mr g u rv cc x y z m (sX0_remember mq r mg mu mr g u rv cc) (nI m, updR rv m (sX2_fill (rv m) x y z)) := by
    unfold sX7_add
    rw [if_neg hN', firstFree_eq sr ok.1, if_pos hm]
    show sX7_add_z_3 mq r mg mu mr g u rv cc x y z m (sX0_remember mq r mg mu mr g u rv cc) = _
    unfold sX7_add_z_3
    rw [hT]
  have hS := add_st sr ok.1 hm hx hy hz
  have hR := rem_f M sr ok
  unfold ADDF
  rw [eC, mF_of ok.1]
  exact ⟨rfl, rfl, hR, ⟨m + 1, hS.1, hS.2, okx_add ok.2 hm hy.1 hz.1⟩⟩
theorem k_add_no (x y z : Int32) (h : sX8_isNew x y z = 0) : sX7_add mq r mg mu mr g u rv cc x y z = (1, 0, mq, r, mg, mu, mr, rv) := if_pos ((new_iff x y z).mpr h)
def DOORN (f : RW) (i : Nat) (y : Int32) : Int32 := (sX8_doorOn f (mF f) i y).1
theorem okx_lay (okx : OKX m f) {k w : Nat} (hw : w < 8) (v : Int32) (h1 : ¬ w = 1) (h2 : ¬ w = 2) (h6 : ¬ w = 6) : OKX m (sX8_lay f k w v) := fun i hi => by
  unfold sX8_lay
  rw [pk_un (by omega), pk_un (by omega), pk_un (by omega)]
  exact okx i hi
theorem k_door (M : MEMf B cc rw_ mq r mg mu mr) (sr : SM f g u rv) (ok : OKP B m f) (x : Int32) {y : Int32} (hy : zb y) (hR : ¬ sX8_isRoom f x = 0) :
    (sX7_door mq r mg mu mr g u rv cc x y).1 = 0 ∧ (sX7_door mq r mg mu mr g u rv cc x y).2.1 = DOORN f x.toNatClampNeg y ∧ MEMf B (pushC cc) (pushR cc rw_ f) (sX7_door mq r mg mu mr g u rv cc x y).2.2.1 (sX7_door mq r mg mu mr g u rv cc x y).2.2.2.1 (sX7_door mq r mg mu mr g u rv cc x y).2.2.2.2.1 (sX7_door mq r mg mu mr g u rv cc x y).2.2.2.2.2.1 (sX7_door mq r mg mu mr g u rv cc x y).2.2.2.2.2.2.1 ∧ STf B (sX8_lay f x.toNatClampNeg 4 y) g u (sX7_door mq r mg mu mr g u rv cc x y).2.2.2.2.2.2.2 := by
  obtain ⟨hk, hk6⟩ := isr_n ok.1 hR
  have hT : sX5_moveDoor g u rv x y = (1, updR rv x.toNatClampNeg (upd (rv x.toNatClampNeg) 5 y)) := oe_s (roomAt_s sr ok.1 hR)
  have hxy : (if y = 0 then 0 else 1 : Int32) = y := by
    rcases hy with h | h <;> subst h <;> rfl
  have s1 : SM (sX8_lay f x.toNatClampNeg 4 y) g u (updR rv x.toNatClampNeg (upd (rv x.toNatClampNeg) 5 y)) := sm_room sr hk6 (w := 4) (by decide) y
  have s2 := ok_door ok.1 hk6 hy
  have hD : (sX8_doorOn f m x.toNatClampNeg y).1 = sX5_openDoors g u (updR rv x.toNatClampNeg (upd (rv x.toNatClampNeg) 5 y)) := by
    unfold sX8_doorOn sX8_doorOn_j12 sX8_doorOn_z_2
    rw [hxy]
    have d1 := doors_eq s1 s2 f f m x.toNatClampNeg y y 6 0 0 rfl
    rw [Nat.sub_zero] at d1
    unfold sX5_openDoors
    rw [← d1]
  have eC : sX7_door mq r mg mu mr g u rv cc x y = sX7_door_z_4 mq r mg mu mr g u rv cc x y x.toNatClampNeg (sX0_remember mq r mg mu mr g u rv cc) (1, updR rv x.toNatClampNeg (upd (rv x.toNatClampNeg) 5 y)) := by
    refine (oe_s (roomAt_s sr ok.1 hR)).trans ?_
    unfold sX7_door_z_3
    rw [hT]
  have hRm := rem_f M sr ok
  unfold DOORN
  rw [eC, mF_of ok.1, hD]
  exact ⟨rfl, rfl, hRm, ⟨m, s1, s2, okx_lay ok.2 (by decide) y (by decide) (by decide) (by decide)⟩⟩
theorem k_door_no (sr : SM f g u rv) (ok : OKs B m f) (x y : Int32) (hR : sX8_isRoom f x = 0) : sX7_door mq r mg mu mr g u rv cc x y = (3, 0, mq, r, mg, mu, mr, rv) := oe_n (roomAt_n sr ok hR)
theorem k_goods (M : MEMf B cc rw_ mq r mg mu mr) (sr : SM f g u rv) (ok : OKP B m f) (x y : Int32) (hR : ¬ sX8_isRoom f x = 0) (hb : -400 ≤ y.toInt ∧ y.toInt ≤ 400) :
    (sX7_goods mq r mg mu mr g u rv cc x y).1 = 0 ∧ (sX7_goods mq r mg mu mr g u rv cc x y).2.1 = f (16 + 8 * x.toNatClampNeg + 3) ∧ MEMf B (pushC cc) (pushR cc rw_ f) (sX7_goods mq r mg mu mr g u rv cc x y).2.2.1 (sX7_goods mq r mg mu mr g u rv cc x y).2.2.2.1 (sX7_goods mq r mg mu mr g u rv cc x y).2.2.2.2.1 (sX7_goods mq r mg mu mr g u rv cc x y).2.2.2.2.2.1 (sX7_goods mq r mg mu mr g u rv cc x y).2.2.2.2.2.2.1 ∧ STf B (sX8_lay f x.toNatClampNeg 3 y) g u (sX7_goods mq r mg mu mr g u rv cc x y).2.2.2.2.2.2.2 := by
  obtain ⟨hk, hk6⟩ := isr_n ok.1 hR
  have hV : ¬ sX8_in y.toInt64 (-400) 400 = 0 := fun h => (in32 (a := -400) (b := 400) rfl rfl).mp h hb
  have hV' : ¬ sX5_canBeTemperature y = 0 := fun h => hV ((temp_iff y).mp h)
  have hT : sX5_takeGoods g u rv x y = (1, updR rv x.toNatClampNeg (upd (rv x.toNatClampNeg) 4 y)) := (oe_s (roomAt_s sr ok.1 hR)).trans (if_neg hV')
  have s1 : SM (sX8_lay f x.toNatClampNeg 3 y) g u (updR rv x.toNatClampNeg (upd (rv x.toNatClampNeg) 4 y)) := sm_room sr hk6 (w := 3) (by decide) y
  have s2 := ok_temp ok.1 hk6 hb
  have eC : sX7_goods mq r mg mu mr g u rv cc x y = sX7_goods_z_4 mq r mg mu mr g u rv cc x y x.toNatClampNeg (sX0_remember mq r mg mu mr g u rv cc) (1, updR rv x.toNatClampNeg (upd (rv x.toNatClampNeg) 4 y)) := by
    have e1 : sX7_goods mq r mg mu mr g u rv cc x y = (if sX5_canBeTemperature y = 0 then (1, 0, mq, r, mg, mu, mr, rv) else sX7_goods_z_3 mq r mg mu mr g u rv cc x y x.toNatClampNeg (sX0_remember mq r mg mu mr g u rv cc)) := oe_s (roomAt_s sr ok.1 hR)
    rw [e1, if_neg hV']
    unfold sX7_goods_z_3
    rw [hT]
  have hRm := rem_f M sr ok
  rw [eC]
  exact ⟨rfl, sr.2.2.2 _ 3 hk6 (by decide), hRm, ⟨m, s1, s2, okx_lay ok.2 (by decide) y (by decide) (by decide) (by decide)⟩⟩
theorem k_goods_no (sr : SM f g u rv) (ok : OKs B m f) (x y : Int32) (hR : sX8_isRoom f x = 0) : sX7_goods mq r mg mu mr g u rv cc x y = (3, 0, mq, r, mg, mu, mr, rv) := oe_n (roomAt_n sr ok hR)
theorem k_goods_no2 (sr : SM f g u rv) (ok : OKs B m f) (x y : Int32) (hR : ¬ sX8_isRoom f x = 0) (hV : sX8_in y.toInt64 (-400) 400 = 0) : sX7_goods mq r mg mu mr g u rv cc x y = (1, 0, mq, r, mg, mu, mr, rv) := (oe_s (roomAt_s sr ok hR)).trans (if_pos ((temp_iff y).mpr hV))
theorem k_run (hB : B ≤ 99000) (M : MEMf B cc rw_ mq r mg mu mr) (sr : SM f g u rv) (ok : OKP B m f) (x : Int32) (hb : 1 ≤ x.toInt ∧ x.toInt ≤ 60) :
    (sX7_run mq r mg mu mr g u rv cc x).1 = 0 ∧ (sX7_run mq r mg mu mr g u rv cc x).2.1 = RUNF f x.toNatClampNeg 5 - f 5 ∧ MEMf B (pushC cc) (pushR cc rw_ f) (sX7_run mq r mg mu mr g u rv cc x).2.2.1 (sX7_run mq r mg mu mr g u rv cc x).2.2.2.1 (sX7_run mq r mg mu mr g u rv cc x).2.2.2.2.1 (sX7_run mq r mg mu mr g u rv cc x).2.2.2.2.2.1 (sX7_run mq r mg mu mr g u rv cc x).2.2.2.2.2.2.1 ∧ STf (B + 60) (RUNF f x.toNatClampNeg) (sX7_run mq r mg mu mr g u rv cc x).2.2.2.2.2.2.2.1 u (sX7_run mq r mg mu mr g u rv cc x).2.2.2.2.2.2.2.2 := by
  have hA : ¬ sX8_in x.toInt64 1 60 = 0 := fun h => (in32 (a := 1) (b := 60) rfl rfl).mp h hb
  have hA' : ¬ sX5_canPass x = 0 := fun h => hA ((pass_iff x).mp h)
  have hn : x.toNatClampNeg ≤ 60 := by rw [tc_n]; omega
  have eC : sX7_run mq r mg mu mr g u rv cc x = sX7_run_z_2 mq r mg mu mr g u rv cc x (sX0_remember mq r mg mu mr g u rv cc) (sX5_passMinutes g u rv x) := if_neg hA'
  have hP : sX5_passMinutes g u rv x = (1, (cit u x.toNatClampNeg (g, rv)).1, (cit u x.toNatClampNeg (g, rv)).2) := (if_neg hA').trans (pm_cit x.toNatClampNeg 0 g rv)
  obtain ⟨i1, i2, i3⟩ := it_eq x.toNatClampNeg B g rv zz zz f (by omega) sr ok.1
  have ix := okx_mit (B := B) x.toNatClampNeg zz zz f (by omega) ⟨_, _, _, sr⟩ ok.1 ok.2
  have hRm := rem_f M sr ok
  have eF : RUNF f x.toNatClampNeg = (mit m x.toNatClampNeg (zz, zz, f)).2.2 := by unfold RUNF; rw [mF_of ok.1]
  rw [eC, hP, eF]
  refine ⟨rfl, ?_, hRm, ⟨m, i1, i2.mono (by omega), ix⟩⟩
  show (cit u x.toNatClampNeg (g, rv)).1 5 - g 5 = _
  rw [i1.1 5 (by decide) (by decide), sr.1 5 (by decide) (by decide)]
theorem k_run_no (x : Int32) (h : sX8_in x.toInt64 1 60 = 0) : sX7_run mq r mg mu mr g u rv cc x = (1, 0, mq, r, mg, mu, mr, g, rv) := if_pos ((pass_iff x).mpr h)
theorem okx_set (okx : OKX m f) {w : Nat} (hw : w < 6) (v : Int32) : OKX m (upd f (10 + w) v) := fun i hi => by
  rw [pk_un (by omega), pk_un (by omega), pk_un (by omega)]
  exact okx i hi
theorem k_set (M : MEMf B cc rw_ mq r mg mu mr) (sr : SM f g u rv) (ok : OKP B m f) (x y : Int32) (hA : ¬ sX8_isSetting x y = 0) :
    (sX7_set mq r mg mu mr g u rv cc x y).1 = 0 ∧ (sX7_set mq r mg mu mr g u rv cc x y).2.1 = f (10 + x.toNatClampNeg) ∧ MEMf B (pushC cc) (pushR cc rw_ f) (sX7_set mq r mg mu mr g u rv cc x y).2.2.1 (sX7_set mq r mg mu mr g u rv cc x y).2.2.2.1 (sX7_set mq r mg mu mr g u rv cc x y).2.2.2.2.1 (sX7_set mq r mg mu mr g u rv cc x y).2.2.2.2.2.1 (sX7_set mq r mg mu mr g u rv cc x y).2.2.2.2.2.2.1 ∧ STf B (upd f (10 + x.toNatClampNeg) y) g (sX7_set mq r mg mu mr g u rv cc x y).2.2.2.2.2.2.2 rv := by
  have hA' : ¬ sX3_isAllowed x y = 0 := fun h => hA ((all_iff x y).mp h)
  have hb : (0 ≤ x.toInt ∧ x.toInt ≤ 5) ∧ slo x ≤ y.toInt ∧ y.toInt ≤ shi x := by
    by_cases hq : (0 ≤ x.toInt ∧ x.toInt ≤ 5) ∧ slo x ≤ y.toInt ∧ y.toInt ≤ shi x
    · exact hq
    · exact absurd ((all_m x y).mpr hq) hA
  have s1 := set_ok sr ok.1 hb.1 hb.2.1 hb.2.2
  have hT : sX5_changeSetting g u rv x y = (1, sX3_change u x y) := if_neg hA'
  have eC : sX7_set mq r mg mu mr g u rv cc x y = sX7_set_z_2 mq r mg mu mr g u rv cc x y (sX0_remember mq r mg mu mr g u rv cc) (1, sX3_change u x y) := by
    refine (if_neg hA').trans ?_
    unfold sX7_set_z_1
    rw [hT]
  have hRm := rem_f M sr ok
  rw [eC]
  exact ⟨rfl, val_eq sr ((set_w x).mp hb.1), hRm, ⟨m, s1.1, s1.2, okx_set ok.2 (by rw [tc_n]; omega) y⟩⟩
theorem k_set_no (x y : Int32) (h : sX8_isSetting x y = 0) : sX7_set mq r mg mu mr g u rv cc x y = (1, 0, mq, r, mg, mu, mr, u) := if_pos ((all_iff x y).mpr h)
theorem k_undo (M : MEMf B cc rw_ mq r mg mu mr) (sr : SM f g u rv) (hc : ¬ cc = 0) :
    (sX7_undo mq r mg mu mr g u rv cc).1 = 0 ∧ (sX7_undo mq r mg mu mr g u rv cc).2.1 = nI (cc - 1) ∧ MEMf B (cc - 1) rw_ (sX7_undo mq r mg mu mr g u rv cc).2.2.1 r mg mu mr ∧ STf B (rw_ (cc - 1)) (sX7_undo mq r mg mu mr g u rv cc).2.2.2.1 (sX7_undo mq r mg mu mr g u rv cc).2.2.2.2.1 (sX7_undo mq r mg mu mr g u rv cc).2.2.2.2.2 := by
  have hmq : mq 1 = nI cc := M.1
  have hcc := M.2.1
  have hne : ¬ nI cc = 0 := fun h => hc (nI_inj (b := 0) (by omega) (by decide) h)
  have hle : ¬ nI cc ≤ 0 := fun h => by
    have := (nI_leI (b := 0) (by omega) (by decide)).mp h
    omega
  have c1 : sX0_isEmpty mq = 0 := by
    unfold sX0_isEmpty
    rw [hmq, if_neg hne]
  have eC : sX7_undo mq r mg mu mr g u rv cc = sX7_undo_z_1 mq r mg mu mr g u rv cc (sX0_takeBack_z_1 mq r mg mu mr g u rv cc (sX5_copyFrom g u rv (mg (r (cc - 1))) (mu (r (cc - 1))) (mr (r (cc - 1))))) := by
    refine (if_pos c1).trans ?_
    have : sX0_takeBack mq r mg mu mr g u rv cc = _ := if_neg hle
    rw [this]
  obtain ⟨a1, a3, a4, a5, a6, a7⟩ := M
  obtain ⟨m', t1, t2⟩ := a7 (cc - 1) (by omega)
  rw [eC]
  exact ⟨rfl, (show upd mq 1 (nI (cc - 1)) 1 = nI (cc - 1) from pk_us), ⟨(show upd mq 1 (nI (cc - 1)) 1 = nI (cc - 1) from pk_us), by omega, a4, a5, a6, fun p hp => a7 p (by omega)⟩, ⟨m', cf_sm t1 sr.2.2.1, t2⟩⟩
theorem k_undo_no (M : MEMf B 0 rw_ mq r mg mu mr) : sX7_undo mq r mg mu mr g u rv 0 = (2, 0, mq, g, u, rv) := by
  have hmq : mq 1 = nI 0 := M.1
  unfold sX7_undo sX0_isEmpty
  rw [hmq]; rfl
theorem sl_keep (n0 : N0 rv6) (sr : SM f g u rv) (ok : OKP B m f) : SLf B (upd s0 1 1) (sX5_copyFrom g6 u6 rv6 g u rv).1 (sX5_copyFrom g6 u6 rv6 g u rv).2.1 (sX5_copyFrom g6 u6 rv6 g u rv).2.2 (some f) :=
  ⟨pk_us, fun i hi => cf_0 n0 hi, sm_zb (cf_sm sr n0) ok.1, fun fs h => by cases h; exact ⟨m, cf_sm sr n0, ok⟩⟩
theorem k_save_0 (sr : SM f g u rv) (ok : OKP B m f) (n6 : N0 rv6) : (sX7_save s0 g6 u6 rv6 s1 g7 u7 rv7 g u rv 0) = (0, f 1, upd s0 1 1, s1, (sX5_copyFrom g6 u6 rv6 g u rv).1, (sX5_copyFrom g6 u6 rv6 g u rv).2.1, (sX5_copyFrom g6 u6 rv6 g u rv).2.2, g7, u7, rv7) := by
  rw [← sr.1 1 (by decide) (by decide)]; rfl
theorem k_save_1 (sr : SM f g u rv) (ok : OKP B m f) (n7 : N0 rv7) : (sX7_save s0 g6 u6 rv6 s1 g7 u7 rv7 g u rv 1) = (0, f 1, s0, upd s1 1 1, g6, u6, rv6, (sX5_copyFrom g7 u7 rv7 g u rv).1, (sX5_copyFrom g7 u7 rv7 g u rv).2.1, (sX5_copyFrom g7 u7 rv7 g u rv).2.2) := by
  rw [← sr.1 1 (by decide) (by decide)]; rfl
theorem k_save_no (x : Int32) (h : ¬ x = 0) (h1 : ¬ x = 1) : sX7_save s0 g6 u6 rv6 s1 g7 u7 rv7 g u rv x = (3, 0, s0, s1, g6, u6, rv6, g7, u7, rv7) := by
  unfold sX7_save
  rw [if_neg h, if_neg h1]
theorem k_back_no (x : Int32) (h : ¬ x = 0) (h1 : ¬ x = 1) : sX7_restore mq s0 g6 u6 rv6 s1 g7 u7 rv7 g u rv x = (3, 0, mq, g, u, rv) := by
  unfold sX7_restore
  rw [if_neg h, if_neg h1]
theorem k_back_0 {fs : RW} (M : MEMf B cc rw_ mq r mg mu mr) (sr : SM f g u rv) (S : SLf B s0 g6 u6 rv6 (some fs)) : (sX7_restore mq s0 g6 u6 rv6 s1 g7 u7 rv7 g u rv 0).1 = 0 ∧ (sX7_restore mq s0 g6 u6 rv6 s1 g7 u7 rv7 g u rv 0).2.1 = fs 1 ∧ MEMf B 0 rw_ (sX7_restore mq s0 g6 u6 rv6 s1 g7 u7 rv7 g u rv 0).2.2.1 r mg mu mr ∧ STf B fs (sX7_restore mq s0 g6 u6 rv6 s1 g7 u7 rv7 g u rv 0).2.2.2.1 (sX7_restore mq s0 g6 u6 rv6 s1 g7 u7 rv7 g u rv 0).2.2.2.2.1 (sX7_restore mq s0 g6 u6 rv6 s1 g7 u7 rv7 g u rv 0).2.2.2.2.2 := by
  have eC : sX7_restore mq s0 g6 u6 rv6 s1 g7 u7 rv7 g u rv 0 = (if (s0 1) = 0 then (2, 0, mq, g, u, rv) else (sX7_restore_z_3 mq s0 g6 u6 rv6 s1 g7 u7 rv7 g u rv 0 (sX5_copyFrom g u rv g6 u6 rv6))) := rfl
  have h1 : s0 1 = 1 := S.1
  obtain ⟨m', t1, t2⟩ := S.2.2.2 fs rfl
  have c1 := cf_sm (g := g) (u := u) t1 sr.2.2.1
  rw [eC, h1, if_neg (by decide)]
  generalize sX5_copyFrom g u rv g6 u6 rv6 = Y at c1 ⊢
  exact ⟨rfl, c1.1 1 (by decide) (by decide), ⟨(show upd mq 1 0 1 = nI 0 from pk_us), by omega, M.2.2.1, M.2.2.2.1, M.2.2.2.2.1, fun p hp => absurd hp (Nat.not_lt_zero _)⟩, ⟨m', c1, t2⟩⟩
theorem k_back_1 {fs : RW} (M : MEMf B cc rw_ mq r mg mu mr) (sr : SM f g u rv) (S : SLf B s1 g7 u7 rv7 (some fs)) : (sX7_restore mq s0 g6 u6 rv6 s1 g7 u7 rv7 g u rv 1).1 = 0 ∧ (sX7_restore mq s0 g6 u6 rv6 s1 g7 u7 rv7 g u rv 1).2.1 = fs 1 ∧ MEMf B 0 rw_ (sX7_restore mq s0 g6 u6 rv6 s1 g7 u7 rv7 g u rv 1).2.2.1 r mg mu mr ∧ STf B fs (sX7_restore mq s0 g6 u6 rv6 s1 g7 u7 rv7 g u rv 1).2.2.2.1 (sX7_restore mq s0 g6 u6 rv6 s1 g7 u7 rv7 g u rv 1).2.2.2.2.1 (sX7_restore mq s0 g6 u6 rv6 s1 g7 u7 rv7 g u rv 1).2.2.2.2.2 := by
  have eC : sX7_restore mq s0 g6 u6 rv6 s1 g7 u7 rv7 g u rv 1 = (if (s1 1) = 0 then (2, 0, mq, g, u, rv) else (sX7_restore_z_5 mq s0 g6 u6 rv6 s1 g7 u7 rv7 g u rv 1 (sX5_copyFrom g u rv g7 u7 rv7))) := rfl
  have h1 : s1 1 = 1 := S.1
  obtain ⟨m', t1, t2⟩ := S.2.2.2 fs rfl
  have c1 := cf_sm (g := g) (u := u) t1 sr.2.2.1
  rw [eC, h1, if_neg (by decide)]
  generalize sX5_copyFrom g u rv g7 u7 rv7 = Y at c1 ⊢
  exact ⟨rfl, c1.1 1 (by decide) (by decide), ⟨(show upd mq 1 0 1 = nI 0 from pk_us), by omega, M.2.2.1, M.2.2.2.1, M.2.2.2.2.1, fun p hp => absurd hp (Nat.not_lt_zero _)⟩, ⟨m', c1, t2⟩⟩
theorem k_back_n0 (S : SLf B s0 g6 u6 rv6 none) : sX7_restore mq s0 g6 u6 rv6 s1 g7 u7 rv7 g u rv 0 = (2, 0, mq, g, u, rv) := if_pos S.1
theorem k_back_n1 (S : SLf B s1 g7 u7 rv7 none) : sX7_restore mq s0 g6 u6 rv6 s1 g7 u7 rv7 g u rv 1 = (2, 0, mq, g, u, rv) := if_pos S.1
end P74
