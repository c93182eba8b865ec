/-! Numbers of the law -/
theorem t_n {k : Nat} (h : k < 2147483648) : (nI k).toInt = (k : Int) := nI_toInt (by omega)
theorem t_cs (c : Int32) (k : Nat) (h1 : -1000000 ≤ c.toInt) (h2 : c.toInt ≤ 1000000) (hk : k < 1000000) : (c - nI k).toInt = c.toInt - (k : Int) := by
  have e := t_n (k := k) (by omega)
  rw [is_ (by omega) (by omega), e]
theorem t_nc (k : Nat) (c : Int32) (h1 : -1000000 ≤ c.toInt) (h2 : c.toInt ≤ 1000000) (hk : k < 1000000) : (nI k - c).toInt = (k : Int) - c.toInt := by
  have e := t_n (k := k) (by omega)
  rw [is_ (by omega) (by omega), e]
theorem t_w (X : Nat) : (nI (X % 500) - 300).toInt = ((X % 500 : Nat) : Int) - 300 := t_nc _ 300 (by decide) (by decide) (by omega)
theorem qa_0 {B m : Nat} {f : RW} (ok : OKs B m f) : qAbout f 0 = nI (mF f) := by
  rw [mF_of ok, ← ok.2.1]; rfl
theorem qa_no (f : RW) {k : Nat} (h : 10 < k) (hk : k < 2147483648) : qAbout f (nI k) = (-9999002) := by
  unfold qAbout
  rw [if_pos ((in32 (a := 0) (b := 10) rfl rfl).mpr (by rw [t_n hk]; omega))]
theorem qs_no (f : RW) {k : Nat} (h : 5 < k) (hk : k < 2147483648) : qSet f (nI k) = (-9999002) := by
  unfold qSet
  rw [if_pos ((in32 (a := 0) (b := 5) rfl rfl).mpr (by rw [t_n hk]; omega))]
theorem ir_no {B m : Nat} {f : RW} (ok : OKs B m f) {k : Nat} (h : mF f ≤ k) (hk : k < 2147483648) : sX8_isRoom f (nI k) = 0 := by
  rw [mF_of ok] at h
  exact (isr_iff ok _).mpr (by rw [t_n hk]; omega)
theorem ir_yes {B m : Nat} {f : RW} (ok : OKs B m f) {k : Nat} (h : k < mF f) : ¬ sX8_isRoom f (nI k) = 0 := by
  rw [mF_of ok] at h
  have hm := ok.1
  exact fun z => (isr_iff ok _).mp z (by rw [t_n (by omega)]; omega)
theorem qr_no {B m : Nat} {f : RW} (ok : OKs B m f) {k : Nat} (h : mF f ≤ k) (hk : k < 2147483648) (y : Int32) : qRoom f (nI k) y = (-9999001) := by
  unfold qRoom
  rw [if_pos (ir_no ok h hk)]
theorem qr_no2 {B m : Nat} {f : RW} (ok : OKs B m f) (h : 1 ≤ mF f) {k : Nat} (h7 : 7 < k) (hk : k < 2147483648) : qRoom f 0 (nI k) = (-9999002) := by
  unfold qRoom
  have h0 : ¬ sX8_isRoom f 0 = 0 := ir_yes ok (k := 0) (by omega)
  rw [if_neg h0, if_pos ((in32 (a := 0) (b := 7) rfl rfl).mpr (by rw [t_n hk]; omega))]
theorem qd_no {B m : Nat} {f : RW} (ok : OKs B m f) {k : Nat} (h : mF f ≤ k) (hk : k < 2147483648) : qDoes f (nI k) = (-9999001) := by
  unfold qDoes
  rw [if_pos (ir_no ok h hk)]
theorem qr_at {B m : Nat} {f : RW} (ok : OKs B m f) {k w : Nat} (h : k < mF f) (hw : w < 8) : qRoom f (nI k) (nI w) = f (16 + 8 * k + w) := by
  have hm := ok.1
  rw [mF_of ok] at h
  unfold qRoom
  rw [if_neg (ir_yes ok (by rw [mF_of ok]; exact h)), if_neg (fun z => (in32 (a := 0) (b := 7) rfl rfl).mp z (by rw [t_n (by omega)]; omega)), nI_cl (by omega), nI_cl (by omega)]
theorem qd_at {B m : Nat} {f : RW} (ok : OKs B m f) {k : Nat} (h : k < mF f) : qDoes f (nI k) = JB f k := by
  have hm := ok.1
  have h' := h
  rw [mF_of ok] at h'
  unfold qDoes
  rw [if_neg (ir_yes ok h), nI_cl (by omega)]
theorem rf_app0 (X : Nat) : (-1 - nI (X % 9)) < 0 ∨ 255 < (-1 - nI (X % 9)) := Or.inl (by
  have h := t_cs (-1) (X % 9) (by decide) (by decide) (by omega)
  have e : (-1 : Int32).toInt = -1 := rfl
  have e0 : (0 : Int32).toInt = 0 := rfl
  rw [lt_i, h, e, e0]; omega)
theorem rf_app1 (X : Nat) : nI (256 + X % 9) < 0 ∨ 255 < nI (256 + X % 9) := Or.inr (by
  have e0 : (255 : Int32).toInt = 255 := rfl
  rw [lt_i, t_n (by omega), e0]; omega)
theorem rf_add (v : Nat) (h : v = 0 ∨ 50 < v) (hv : v < 1000) (y z : Int32) : sX8_isNew (nI v) y z = 0 := (new_t _ _ _).mpr (fun q => by
  have e := t_n (k := v) (by omega)
  omega)
theorem rf_add1 (X : Nat) (v : Int32) : sX8_isNew v (nI (X % 500) - 300) (nI (X % 500) - 300 - nI (X % 9)) = 0 := (new_t _ _ _).mpr (fun q => by
  have e := t_w X
  have e2 := t_cs (nI (X % 500) - 300) (X % 9) (by omega) (by omega) (by omega)
  omega)
theorem rf_add2 (X : Nat) (v w : Int32) : sX8_isNew v w (nI (201 + X % 9)) = 0 := (new_t _ _ _).mpr (fun q => by
  have e := t_n (k := 201 + X % 9) (by omega)
  omega)
theorem rf_add3 (X : Nat) (v w : Int32) : sX8_isNew v (-301 - nI (X % 9)) w = 0 := (new_t _ _ _).mpr (fun q => by
  have h := t_cs (-301) (X % 9) (by decide) (by decide) (by omega)
  have e : (-301 : Int32).toInt = -301 := rfl
  omega)
theorem rf_goods0 (X : Nat) : sX8_in (-401 - nI (X % 9)).toInt64 (-400) 400 = 0 := (in32 (a := -400) (b := 400) rfl rfl).mpr (fun q => by
  have h := t_cs (-401) (X % 9) (by decide) (by decide) (by omega)
  have e : (-401 : Int32).toInt = -401 := rfl
  omega)
theorem rf_goods1 (X : Nat) : sX8_in (nI (401 + X % 9)).toInt64 (-400) 400 = 0 := (in32 (a := -400) (b := 400) rfl rfl).mpr (fun q => by
  have e := t_n (k := 401 + X % 9) (by omega)
  omega)
theorem rf_run (v : Nat) (h : v = 0 ∨ 60 < v) (hv : v < 1000) : sX8_in (nI v).toInt64 1 60 = 0 := (in32 (a := 1) (b := 60) rfl rfl).mpr (fun q => by
  have e := t_n (k := v) (by omega)
  omega)
theorem shi_le (w : Int32) : shi w ≤ 9999 := by
  unfold shi
  (repeat' split) <;> omega
theorem slo_ge (w : Int32) : 0 ≤ slo w := by
  unfold slo
  (repeat' split) <;> omega
theorem rf_set1 (w : Int32) (X : Nat) : sX8_isSetting w (nI (10000 + X % 9)) = 0 := (all_m _ _).mpr (fun q => by
  have e := t_n (k := 10000 + X % 9) (by omega)
  have := shi_le w
  omega)
theorem rf_set2 (w : Int32) (X : Nat) : sX8_isSetting w (-1 - nI (X % 9)) = 0 := (all_m _ _).mpr (fun q => by
  have h := t_cs (-1) (X % 9) (by decide) (by decide) (by omega)
  have e : (-1 : Int32).toInt = -1 := rfl
  have := slo_ge w
  omega)
theorem rf_set3 (X : Nat) : sX8_isSetting (nI (3 + X % 3)) 0 = 0 := by
  have h : X % 3 = 0 ∨ X % 3 = 1 ∨ X % 3 = 2 := by omega
  rcases h with h | h | h <;> rw [h] <;> decide
theorem rf_set4 (X : Nat) (v : Int32) : sX8_isSetting (nI (6 + X % 9)) v = 0 := (all_m _ _).mpr (fun q => by
  have e := t_n (k := 6 + X % 9) (by omega)
  omega)
theorem rf_com1 (X : Nat) (y : Int32) : sX8_in (nI (241 + X % 9)).toInt64 1 240 = 0 ∨ sX8_in y.toInt64 0 4 = 0 := Or.inl ((in32 (a := 1) (b := 240) rfl rfl).mpr (fun q => by
  have e := t_n (k := 241 + X % 9) (by omega)
  omega))
theorem rf_com2 (X : Nat) (x : Int32) : sX8_in x.toInt64 1 240 = 0 ∨ sX8_in (nI (5 + X % 9)).toInt64 0 4 = 0 := Or.inr ((in32 (a := 0) (b := 4) rfl rfl).mpr (fun q => by
  have e := t_n (k := 5 + X % 9) (by omega)
  omega))
theorem ne_c {v c : Int32} (h : v.toInt ≠ c.toInt) : ¬ v = c := fun z => h (congrArg Int32.toInt z)
theorem rf_save (X : Nat) : ¬ nI (2 + X % 50) = 0 ∧ ¬ nI (2 + X % 50) = 1 := by
  have e := t_n (k := 2 + X % 50) (by omega)
  have e0 : (0 : Int32).toInt = 0 := rfl
  have e1 : (1 : Int32).toInt = 1 := rfl
  exact ⟨ne_c (by omega), ne_c (by omega)⟩
theorem rf_back (X : Nat) : ¬ -1 - nI (X % 9) = 0 ∧ ¬ -1 - nI (X % 9) = 1 := by
  have h := t_cs (-1) (X % 9) (by decide) (by decide) (by omega)
  have e : (-1 : Int32).toInt = -1 := rfl
  have e0 : (0 : Int32).toInt = 0 := rfl
  have e1 : (1 : Int32).toInt = 1 := rfl
  exact ⟨ne_c (by omega), ne_c (by omega)⟩
theorem rf_script {X : Nat} (h : X < 100000) : ((100000 : Int64) + (nI X).toInt64).toInt = ((100000 + X : Nat) : Int) := by
  have e : (nI X).toInt64.toInt = (X : Int) := by
    rw [Int32.toInt_toInt64]; exact t_n (by omega)
  have e1 : (100000 : Int64).toInt = 100000 := rfl
  rw [Int64.toInt_add, e, e1, Int.bmod_eq_of_le] <;> omega
theorem qsim_no (f : RW) (sd : Int64) {v : Nat} (h : 60 < v) (hv : v < 1000) : qSim f sd (nI v) = (-9999002) := by
  unfold qSim
  rw [if_pos (rf_run v (Or.inr h) hv)]
theorem and_31 (v : Int32) : 0 ≤ (v &&& 2147483647).toInt := by
  show 0 ≤ ((v.toBitVec &&& (2147483647 : Int32).toBitVec).toInt)
  rw [BitVec.toInt_eq_toNat_cond]
  have h : (v.toBitVec &&& (2147483647 : Int32).toBitVec).toNat < 2147483648 := by
    rw [BitVec.toNat_and]
    exact Nat.lt_of_le_of_lt Nat.and_le_right (by decide)
  split <;> omega
