theorem lay_0 {f : Nat → Int32} {i w : Nat} {v : Int32} : sX8_lay f i w v 0 = f 0 := pk_un (by omega)
theorem ro0_roomOn_j356 (jb : Nat → Int32) (f : Nat → Int32) (i : Nat) (x_1 : Int32) (x_2 : Int32) (x_3 : Int32) (x_4 : Int32) (x_5 : Int32) (x_6 : Int32) (z_7 : (Nat → Int32)) (x_9 : Int32) (x_10 : Int32) (z_11 : (Nat → Int32)) (x_12 : Int32) (z_13 : (Nat → Int32)) (x_14 : Int32) (x_15 : Int32) (x_16 : Int32)  : sX8_roomOn_j356 jb f i x_1 x_2 x_3 x_4 x_5 x_6 z_7 x_9 x_10 z_11 x_12 z_13 x_14 x_15 x_16 0 = z_13 0 := by
  unfold sX8_roomOn_j356
  (repeat' split) <;> simp [upd, lay_0]
theorem ro0_roomOn_j333 (jb : Nat → Int32) (f : Nat → Int32) (i : Nat) (x_1 : Int32) (x_2 : Int32) (x_3 : Int32) (x_4 : Int32) (x_5 : Int32) (x_6 : Int32) (z_7 : (Nat → Int32)) (x_9 : Int32) (x_10 : Int32) (z_11 : (Nat → Int32)) (x_12 : Int32) (z_13 : (Nat → Int32)) (x_14 : Int32) (x_15 : Int32)  : sX8_roomOn_j333 jb f i x_1 x_2 x_3 x_4 x_5 x_6 z_7 x_9 x_10 z_11 x_12 z_13 x_14 x_15 0 = z_13 0 := by
  unfold sX8_roomOn_j333
  (repeat' split) <;> simp [upd, lay_0, ro0_roomOn_j356]
theorem ro0_roomOn_j311 (jb : Nat → Int32) (f : Nat → Int32) (i : Nat) (x_1 : Int32) (x_2 : Int32) (x_3 : Int32) (x_4 : Int32) (x_5 : Int32) (x_6 : Int32) (z_7 : (Nat → Int32)) (x_9 : Int32) (x_10 : Int32) (z_11 : (Nat → Int32)) (x_12 : Int32) (z_13 : (Nat → Int32)) (x_14 : Int32)  : sX8_roomOn_j311 jb f i x_1 x_2 x_3 x_4 x_5 x_6 z_7 x_9 x_10 z_11 x_12 z_13 x_14 0 = z_13 0 := by
  unfold sX8_roomOn_j311
  (repeat' split) <;> simp [upd, lay_0, ro0_roomOn_j356, ro0_roomOn_j333]
theorem ro0_roomOn_z_13 (jb : Nat → Int32) (f : Nat → Int32) (i : Nat) (x_1 : Int32) (x_2 : Int32) (x_3 : Int32) (x_4 : Int32) (x_5 : Int32) (x_6 : Int32) (z_7 : (Nat → Int32)) (x_9 : Int32) (x_10 : Int32) (z_11 : (Nat → Int32)) (x_12 : Int32) (z_13 : (Nat → Int32))  : sX8_roomOn_z_13 jb f i x_1 x_2 x_3 x_4 x_5 x_6 z_7 x_9 x_10 z_11 x_12 z_13 0 = z_13 0 := by
  unfold sX8_roomOn_z_13
  (repeat' split) <;> simp [upd, lay_0, ro0_roomOn_j356, ro0_roomOn_j333, ro0_roomOn_j311]
theorem ro0_roomOn_j292 (jb : Nat → Int32) (f : Nat → Int32) (i : Nat) (x_1 : Int32) (x_2 : Int32) (x_3 : Int32) (x_4 : Int32) (x_5 : Int32) (x_6 : Int32) (z_7 : (Nat → Int32)) (x_9 : Int32) (x_10 : Int32) (z_11 : (Nat → Int32)) (x_12 : Int32)  : sX8_roomOn_j292 jb f i x_1 x_2 x_3 x_4 x_5 x_6 z_7 x_9 x_10 z_11 x_12 0 = z_11 0 := by
  unfold sX8_roomOn_j292
  (repeat' split) <;> simp [upd, lay_0, ro0_roomOn_j356, ro0_roomOn_j333, ro0_roomOn_j311, ro0_roomOn_z_13]
theorem ro0_roomOn_z_11 (jb : Nat → Int32) (f : Nat → Int32) (i : Nat) (x_1 : Int32) (x_2 : Int32) (x_3 : Int32) (x_4 : Int32) (x_5 : Int32) (x_6 : Int32) (z_7 : (Nat → Int32)) (x_9 : Int32) (x_10 : Int32) (z_11 : (Nat → Int32))  : sX8_roomOn_z_11 jb f i x_1 x_2 x_3 x_4 x_5 x_6 z_7 x_9 x_10 z_11 0 = z_11 0 := by
  unfold sX8_roomOn_z_11
  (repeat' split) <;> simp [upd, lay_0, ro0_roomOn_j356, ro0_roomOn_j333, ro0_roomOn_j311, ro0_roomOn_z_13, ro0_roomOn_j292]
theorem ro0_roomOn_j261 (jb : Nat → Int32) (f : Nat → Int32) (i : Nat) (x_1 : Int32) (x_2 : Int32) (x_3 : Int32) (x_4 : Int32) (x_5 : Int32) (x_6 : Int32) (z_7 : (Nat → Int32)) (x_9 : Int32) (x_10 : Int32)  : sX8_roomOn_j261 jb f i x_1 x_2 x_3 x_4 x_5 x_6 z_7 x_9 x_10 0 = z_7 0 := by
  unfold sX8_roomOn_j261
  (repeat' split) <;> simp [upd, lay_0, ro0_roomOn_j356, ro0_roomOn_j333, ro0_roomOn_j311, ro0_roomOn_z_13, ro0_roomOn_j292, ro0_roomOn_z_11]
theorem ro0_roomOn_j251 (jb : Nat → Int32) (f : Nat → Int32) (i : Nat) (x_1 : Int32) (x_2 : Int32) (x_3 : Int32) (x_4 : Int32) (x_5 : Int32) (x_6 : Int32) (z_7 : (Nat → Int32)) (x_9 : Int32)  : sX8_roomOn_j251 jb f i x_1 x_2 x_3 x_4 x_5 x_6 z_7 x_9 0 = z_7 0 := by
  unfold sX8_roomOn_j251
  (repeat' split) <;> simp [upd, lay_0, ro0_roomOn_j356, ro0_roomOn_j333, ro0_roomOn_j311, ro0_roomOn_z_13, ro0_roomOn_j292, ro0_roomOn_z_11, ro0_roomOn_j261]
theorem ro0_roomOn_j356p (jb : Nat → Int32) (f : Nat → Int32) (i : Nat) (x_1 : Int32) (x_2 : Int32) (x_3 : Int32) (x_4 : Int32) (x_5 : Int32) (x_6 : Int32) (z_7 : (Nat → Int32)) (x_17 : Int32) (z_18 : (Nat → Int32)) (x_19 : Int32) (z_20 : (Nat → Int32)) (x_21 : Int32) (z_22 : (Nat → Int32)) (x_23 : Int32) (x_24 : Int32) (x_25 : Int32)  : sX8_roomOn_j356' jb f i x_1 x_2 x_3 x_4 x_5 x_6 z_7 x_17 z_18 x_19 z_20 x_21 z_22 x_23 x_24 x_25 0 = z_22 0 := by
  unfold sX8_roomOn_j356'
  (repeat' split) <;> simp [upd, lay_0, ro0_roomOn_j356, ro0_roomOn_j333, ro0_roomOn_j311, ro0_roomOn_z_13, ro0_roomOn_j292, ro0_roomOn_z_11, ro0_roomOn_j261, ro0_roomOn_j251]
theorem ro0_roomOn_j333p (jb : Nat → Int32) (f : Nat → Int32) (i : Nat) (x_1 : Int32) (x_2 : Int32) (x_3 : Int32) (x_4 : Int32) (x_5 : Int32) (x_6 : Int32) (z_7 : (Nat → Int32)) (x_17 : Int32) (z_18 : (Nat → Int32)) (x_19 : Int32) (z_20 : (Nat → Int32)) (x_21 : Int32) (z_22 : (Nat → Int32)) (x_23 : Int32) (x_24 : Int32)  : sX8_roomOn_j333' jb f i x_1 x_2 x_3 x_4 x_5 x_6 z_7 x_17 z_18 x_19 z_20 x_21 z_22 x_23 x_24 0 = z_22 0 := by
  unfold sX8_roomOn_j333'
  (repeat' split) <;> simp [upd, lay_0, ro0_roomOn_j356, ro0_roomOn_j333, ro0_roomOn_j311, ro0_roomOn_z_13, ro0_roomOn_j292, ro0_roomOn_z_11, ro0_roomOn_j261, ro0_roomOn_j251, ro0_roomOn_j356p]
theorem ro0_roomOn_j311p (jb : Nat → Int32) (f : Nat → Int32) (i : Nat) (x_1 : Int32) (x_2 : Int32) (x_3 : Int32) (x_4 : Int32) (x_5 : Int32) (x_6 : Int32) (z_7 : (Nat → Int32)) (x_17 : Int32) (z_18 : (Nat → Int32)) (x_19 : Int32) (z_20 : (Nat → Int32)) (x_21 : Int32) (z_22 : (Nat → Int32)) (x_23 : Int32)  : sX8_roomOn_j311' jb f i x_1 x_2 x_3 x_4 x_5 x_6 z_7 x_17 z_18 x_19 z_20 x_21 z_22 x_23 0 = z_22 0 := by
  unfold sX8_roomOn_j311'
  (repeat' split) <;> simp [upd, lay_0, ro0_roomOn_j356, ro0_roomOn_j333, ro0_roomOn_j311, ro0_roomOn_z_13, ro0_roomOn_j292, ro0_roomOn_z_11, ro0_roomOn_j261, ro0_roomOn_j251, ro0_roomOn_j356p, ro0_roomOn_j333p]
theorem ro0_roomOn_z_22 (jb : Nat → Int32) (f : Nat → Int32) (i : Nat) (x_1 : Int32) (x_2 : Int32) (x_3 : Int32) (x_4 : Int32) (x_5 : Int32) (x_6 : Int32) (z_7 : (Nat → Int32)) (x_17 : Int32) (z_18 : (Nat → Int32)) (x_19 : Int32) (z_20 : (Nat → Int32)) (x_21 : Int32) (z_22 : (Nat → Int32))  : sX8_roomOn_z_22 jb f i x_1 x_2 x_3 x_4 x_5 x_6 z_7 x_17 z_18 x_19 z_20 x_21 z_22 0 = z_22 0 := by
  unfold sX8_roomOn_z_22
  (repeat' split) <;> simp [upd, lay_0, ro0_roomOn_j356, ro0_roomOn_j333, ro0_roomOn_j311, ro0_roomOn_z_13, ro0_roomOn_j292, ro0_roomOn_z_11, ro0_roomOn_j261, ro0_roomOn_j251, ro0_roomOn_j356p, ro0_roomOn_j333p, ro0_roomOn_j311p]
theorem ro0_roomOn_j292p (jb : Nat → Int32) (f : Nat → Int32) (i : Nat) (x_1 : Int32) (x_2 : Int32) (x_3 : Int32) (x_4 : Int32) (x_5 : Int32) (x_6 : Int32) (z_7 : (Nat → Int32)) (x_17 : Int32) (z_18 : (Nat → Int32)) (x_19 : Int32) (z_20 : (Nat → Int32)) (x_21 : Int32)  : sX8_roomOn_j292' jb f i x_1 x_2 x_3 x_4 x_5 x_6 z_7 x_17 z_18 x_19 z_20 x_21 0 = z_20 0 := by
  unfold sX8_roomOn_j292'
  (repeat' split) <;> simp [upd, lay_0, ro0_roomOn_j356, ro0_roomOn_j333, ro0_roomOn_j311, ro0_roomOn_z_13, ro0_roomOn_j292, ro0_roomOn_z_11, ro0_roomOn_j261, ro0_roomOn_j251, ro0_roomOn_j356p, ro0_roomOn_j333p, ro0_roomOn_j311p, ro0_roomOn_z_22]
theorem ro0_roomOn_z_20 (jb : Nat → Int32) (f : Nat → Int32) (i : Nat) (x_1 : Int32) (x_2 : Int32) (x_3 : Int32) (x_4 : Int32) (x_5 : Int32) (x_6 : Int32) (z_7 : (Nat → Int32)) (x_17 : Int32) (z_18 : (Nat → Int32)) (x_19 : Int32) (z_20 : (Nat → Int32))  : sX8_roomOn_z_20 jb f i x_1 x_2 x_3 x_4 x_5 x_6 z_7 x_17 z_18 x_19 z_20 0 = z_20 0 := by
  unfold sX8_roomOn_z_20
  (repeat' split) <;> simp [upd, lay_0, ro0_roomOn_j356, ro0_roomOn_j333, ro0_roomOn_j311, ro0_roomOn_z_13, ro0_roomOn_j292, ro0_roomOn_z_11, ro0_roomOn_j261, ro0_roomOn_j251, ro0_roomOn_j356p, ro0_roomOn_j333p, ro0_roomOn_j311p, ro0_roomOn_z_22, ro0_roomOn_j292p]
theorem ro0_roomOn_j226 (jb : Nat → Int32) (f : Nat → Int32) (i : Nat) (x_1 : Int32) (x_2 : Int32) (x_3 : Int32) (x_4 : Int32) (x_5 : Int32) (x_6 : Int32) (z_7 : (Nat → Int32)) (x_17 : Int32) (z_18 : (Nat → Int32)) (x_19 : Int32)  : sX8_roomOn_j226 jb f i x_1 x_2 x_3 x_4 x_5 x_6 z_7 x_17 z_18 x_19 0 = z_18 0 := by
  unfold sX8_roomOn_j226
  (repeat' split) <;> simp [upd, lay_0, ro0_roomOn_j356, ro0_roomOn_j333, ro0_roomOn_j311, ro0_roomOn_z_13, ro0_roomOn_j292, ro0_roomOn_z_11, ro0_roomOn_j261, ro0_roomOn_j251, ro0_roomOn_j356p, ro0_roomOn_j333p, ro0_roomOn_j311p, ro0_roomOn_z_22, ro0_roomOn_j292p, ro0_roomOn_z_20]
theorem ro0_roomOn_z_18 (jb : Nat → Int32) (f : Nat → Int32) (i : Nat) (x_1 : Int32) (x_2 : Int32) (x_3 : Int32) (x_4 : Int32) (x_5 : Int32) (x_6 : Int32) (z_7 : (Nat → Int32)) (x_17 : Int32) (z_18 : (Nat → Int32))  : sX8_roomOn_z_18 jb f i x_1 x_2 x_3 x_4 x_5 x_6 z_7 x_17 z_18 0 = z_18 0 := by
  unfold sX8_roomOn_z_18
  (repeat' split) <;> simp [upd, lay_0, ro0_roomOn_j356, ro0_roomOn_j333, ro0_roomOn_j311, ro0_roomOn_z_13, ro0_roomOn_j292, ro0_roomOn_z_11, ro0_roomOn_j261, ro0_roomOn_j251, ro0_roomOn_j356p, ro0_roomOn_j333p, ro0_roomOn_j311p, ro0_roomOn_z_22, ro0_roomOn_j292p, ro0_roomOn_z_20, ro0_roomOn_j226]
theorem ro0_roomOn_j182 (jb : Nat → Int32) (f : Nat → Int32) (i : Nat) (x_1 : Int32) (x_2 : Int32) (x_3 : Int32) (x_4 : Int32) (x_5 : Int32) (x_6 : Int32) (z_7 : (Nat → Int32)) (x_17 : Int32)  : sX8_roomOn_j182 jb f i x_1 x_2 x_3 x_4 x_5 x_6 z_7 x_17 0 = z_7 0 := by
  unfold sX8_roomOn_j182
  (repeat' split) <;> simp [upd, lay_0, ro0_roomOn_j356, ro0_roomOn_j333, ro0_roomOn_j311, ro0_roomOn_z_13, ro0_roomOn_j292, ro0_roomOn_z_11, ro0_roomOn_j261, ro0_roomOn_j251, ro0_roomOn_j356p, ro0_roomOn_j333p, ro0_roomOn_j311p, ro0_roomOn_z_22, ro0_roomOn_j292p, ro0_roomOn_z_20, ro0_roomOn_j226, ro0_roomOn_z_18]
theorem ro0_roomOn_z_7 (jb : Nat → Int32) (f : Nat → Int32) (i : Nat) (x_1 : Int32) (x_2 : Int32) (x_3 : Int32) (x_4 : Int32) (x_5 : Int32) (x_6 : Int32) (z_7 : (Nat → Int32))  : sX8_roomOn_z_7 jb f i x_1 x_2 x_3 x_4 x_5 x_6 z_7 0 = z_7 0 := by
  unfold sX8_roomOn_z_7
  (repeat' split) <;> simp [upd, lay_0, ro0_roomOn_j356, ro0_roomOn_j333, ro0_roomOn_j311, ro0_roomOn_z_13, ro0_roomOn_j292, ro0_roomOn_z_11, ro0_roomOn_j261, ro0_roomOn_j251, ro0_roomOn_j356p, ro0_roomOn_j333p, ro0_roomOn_j311p, ro0_roomOn_z_22, ro0_roomOn_j292p, ro0_roomOn_z_20, ro0_roomOn_j226, ro0_roomOn_z_18, ro0_roomOn_j182]
theorem ro0_roomOn_j145 (jb : Nat → Int32) (f : Nat → Int32) (i : Nat) (x_1 : Int32) (x_2 : Int32) (x_3 : Int32) (x_4 : Int32) (x_5 : Int32) (x_6 : Int32)  : sX8_roomOn_j145 jb f i x_1 x_2 x_3 x_4 x_5 x_6 0 = f 0 := by
  unfold sX8_roomOn_j145
  (repeat' split) <;> simp [upd, lay_0, ro0_roomOn_j356, ro0_roomOn_j333, ro0_roomOn_j311, ro0_roomOn_z_13, ro0_roomOn_j292, ro0_roomOn_z_11, ro0_roomOn_j261, ro0_roomOn_j251, ro0_roomOn_j356p, ro0_roomOn_j333p, ro0_roomOn_j311p, ro0_roomOn_z_22, ro0_roomOn_j292p, ro0_roomOn_z_20, ro0_roomOn_j226, ro0_roomOn_z_18, ro0_roomOn_j182, ro0_roomOn_z_7]
theorem ro0_roomOn_j122 (jb : Nat → Int32) (f : Nat → Int32) (i : Nat) (x_1 : Int32) (x_2 : Int32) (x_3 : Int32) (x_4 : Int32) (x_5 : Int32)  : sX8_roomOn_j122 jb f i x_1 x_2 x_3 x_4 x_5 0 = f 0 := by
  unfold sX8_roomOn_j122
  (repeat' split) <;> simp [upd, lay_0, ro0_roomOn_j356, ro0_roomOn_j333, ro0_roomOn_j311, ro0_roomOn_z_13, ro0_roomOn_j292, ro0_roomOn_z_11, ro0_roomOn_j261, ro0_roomOn_j251, ro0_roomOn_j356p, ro0_roomOn_j333p, ro0_roomOn_j311p, ro0_roomOn_z_22, ro0_roomOn_j292p, ro0_roomOn_z_20, ro0_roomOn_j226, ro0_roomOn_z_18, ro0_roomOn_j182, ro0_roomOn_z_7, ro0_roomOn_j145]
theorem ro0_roomOn_j89 (jb : Nat → Int32) (f : Nat → Int32) (i : Nat) (x_1 : Int32) (x_2 : Int32) (x_3 : Int32) (x_4 : Int32)  : sX8_roomOn_j89 jb f i x_1 x_2 x_3 x_4 0 = f 0 := by
  unfold sX8_roomOn_j89
  (repeat' split) <;> simp [upd, lay_0, ro0_roomOn_j356, ro0_roomOn_j333, ro0_roomOn_j311, ro0_roomOn_z_13, ro0_roomOn_j292, ro0_roomOn_z_11, ro0_roomOn_j261, ro0_roomOn_j251, ro0_roomOn_j356p, ro0_roomOn_j333p, ro0_roomOn_j311p, ro0_roomOn_z_22, ro0_roomOn_j292p, ro0_roomOn_z_20, ro0_roomOn_j226, ro0_roomOn_z_18, ro0_roomOn_j182, ro0_roomOn_z_7, ro0_roomOn_j145, ro0_roomOn_j122]
theorem ro0_roomOn_j68 (jb : Nat → Int32) (f : Nat → Int32) (i : Nat) (x_1 : Int32) (x_2 : Int32) (x_3 : Int32)  : sX8_roomOn_j68 jb f i x_1 x_2 x_3 0 = f 0 := by
  unfold sX8_roomOn_j68
  (repeat' split) <;> simp [upd, lay_0, ro0_roomOn_j356, ro0_roomOn_j333, ro0_roomOn_j311, ro0_roomOn_z_13, ro0_roomOn_j292, ro0_roomOn_z_11, ro0_roomOn_j261, ro0_roomOn_j251, ro0_roomOn_j356p, ro0_roomOn_j333p, ro0_roomOn_j311p, ro0_roomOn_z_22, ro0_roomOn_j292p, ro0_roomOn_z_20, ro0_roomOn_j226, ro0_roomOn_z_18, ro0_roomOn_j182, ro0_roomOn_z_7, ro0_roomOn_j145, ro0_roomOn_j122, ro0_roomOn_j89]
theorem ro0_roomOn_j41 (jb : Nat → Int32) (f : Nat → Int32) (i : Nat) (x_1 : Int32) (x_2 : Int32)  : sX8_roomOn_j41 jb f i x_1 x_2 0 = f 0 := by
  unfold sX8_roomOn_j41
  (repeat' split) <;> simp [upd, lay_0, ro0_roomOn_j356, ro0_roomOn_j333, ro0_roomOn_j311, ro0_roomOn_z_13, ro0_roomOn_j292, ro0_roomOn_z_11, ro0_roomOn_j261, ro0_roomOn_j251, ro0_roomOn_j356p, ro0_roomOn_j333p, ro0_roomOn_j311p, ro0_roomOn_z_22, ro0_roomOn_j292p, ro0_roomOn_z_20, ro0_roomOn_j226, ro0_roomOn_z_18, ro0_roomOn_j182, ro0_roomOn_z_7, ro0_roomOn_j145, ro0_roomOn_j122, ro0_roomOn_j89, ro0_roomOn_j68]
theorem ro0_roomOn_j15 (jb : Nat → Int32) (f : Nat → Int32) (i : Nat) (x_1 : Int32)  : sX8_roomOn_j15 jb f i x_1 0 = f 0 := by
  unfold sX8_roomOn_j15
  (repeat' split) <;> simp [upd, lay_0, ro0_roomOn_j356, ro0_roomOn_j333, ro0_roomOn_j311, ro0_roomOn_z_13, ro0_roomOn_j292, ro0_roomOn_z_11, ro0_roomOn_j261, ro0_roomOn_j251, ro0_roomOn_j356p, ro0_roomOn_j333p, ro0_roomOn_j311p, ro0_roomOn_z_22, ro0_roomOn_j292p, ro0_roomOn_z_20, ro0_roomOn_j226, ro0_roomOn_z_18, ro0_roomOn_j182, ro0_roomOn_z_7, ro0_roomOn_j145, ro0_roomOn_j122, ro0_roomOn_j89, ro0_roomOn_j68, ro0_roomOn_j41]
theorem ro_0 {i : Nat} (hi : i < 6) (jb f : Nat → Int32) : sX8_roomOn jb f i 0 = f 0 := by
  unfold sX8_roomOn
  simp [ro0_roomOn_j356, ro0_roomOn_j333, ro0_roomOn_j311, ro0_roomOn_z_13, ro0_roomOn_j292, ro0_roomOn_z_11, ro0_roomOn_j261, ro0_roomOn_j251, ro0_roomOn_j356p, ro0_roomOn_j333p, ro0_roomOn_j311p, ro0_roomOn_z_22, ro0_roomOn_j292p, ro0_roomOn_z_20, ro0_roomOn_j226, ro0_roomOn_z_18, ro0_roomOn_j182, ro0_roomOn_z_7, ro0_roomOn_j145, ro0_roomOn_j122, ro0_roomOn_j89, ro0_roomOn_j68, ro0_roomOn_j41, ro0_roomOn_j15]
theorem me_0 (f : Nat → Int32) (k : Int32) : sX8_measure f k 0 = f 0 := by
  simp only [sX8_measure, sX8_measure_j87, sX8_measure_j65, sX8_measure_j20]
  repeat' split
  all_goals simp [upd]
def lp_X8_minuteOn_15 (q : Nat → Int32) (jb : Nat → Int32) (f : Nat → Int32) (n : Nat) (z_1 : (Nat → Int32) × (Nat → Int32)) (z_2 : (Nat → Int32)) : Nat → Nat → (Nat → Int32) → (Nat → Int32) × (Nat → Int32) × (Nat → Int32)
  | 0, i, f1 => (z_1.1, z_1.2, f1)
  | d + 1, i, f1 => ((fun (z_3 : (Nat → Int32)) => (lp_X8_minuteOn_15 q jb f n z_1 z_2 d (i + 1) z_3)) (sX8_roomOn z_1.2 f1 i))
def sX8_minuteOn_z_2 (q : Nat → Int32) (jb : Nat → Int32) (f : Nat → Int32) (n : Nat) (z_1 : (Nat → Int32) × (Nat → Int32)) (z_2 : (Nat → Int32)) : (Nat → Int32) × (Nat → Int32) × (Nat → Int32) :=
  (lp_X8_minuteOn_15 q jb f n z_1 z_2 n 0 z_2)
def sX8_minuteOn_z_1 (q : Nat → Int32) (jb : Nat → Int32) (f : Nat → Int32) (n : Nat) (z_1 : (Nat → Int32) × (Nat → Int32)) : (Nat → Int32) × (Nat → Int32) × (Nat → Int32) :=
  (sX8_minuteOn_z_2 q jb f n z_1 (sX8_measure f (z_1.1 10)))
def sX8_minuteOn (q : Nat → Int32) (jb : Nat → Int32) (f : Nat → Int32) (n : Nat) : (Nat → Int32) × (Nat → Int32) × (Nat → Int32) :=
  (sX8_minuteOn_z_1 q jb f n (sX8_find q jb f n))
set_option maxRecDepth 100000 in
set_option maxHeartbeats 4000000 in
theorem c_X8_minuteOn (l : Launch) (G : va_G) (kk : Nat → ClassId) (h : Nat) (b : Nat → Nat) (q : Nat → Int32) (jb : Nat → Int32) (ra : Nat) (f : Nat → Int32) (n : Nat) (hn : f 0 = nI n) (h6 : n ≤ 6) : CC l yX8_minuteOn cX8_minuteOn 3 none (rmO 4 90) [.ref h, .ref ra] G kk ([(h, .inr (8, moF b q)), ((b 7), .inl (kk 0, 6, .inl jb)), (ra, .inl (kk 0, 64, .inl f))]) (QV G kk ([(h, .inr (8, moF b ((sX8_minuteOn q jb f n).1))), ((b 7), .inl (kk 0, 6, .inl ((sX8_minuteOn q jb f n).2.1))), (ra, .inl (kk 0, 64, .inl ((sX8_minuteOn q jb f n).2.2)))])) := by
  refine cc_start (by decide +kernel) (Nat.le_of_ble_eq_true rfl) ?_
  intro p e s m below meth c A ls hx hb hr hml hown hts hlocks hA hE hK hP hD hS hl
  have hown : s.vm.findClass RX8 = some m.cls := hown
  have hl : lv_has ls 3 [(0, .ref h), (1, .ref ra)] := hl
  have eS : sX8_minuteOn q jb f n = sX8_minuteOn q jb f n := rfl
  refine lv_aload_n hx hb dX8_minuteOn_0 rfl (lv_at hl 0 rfl) ?_
  refine lv_aload_n hx hb dX8_minuteOn_1 rfl (lv_at hl 1 rfl) ?_
  refine k_goV (k_runV (rest := []) (As := [.ref ra]) hx hb hml hown hts hK hP hD hS hA hE hl.1 (c_X8_find l G kk h b q jb ra f n (by omega) (by omega)) vl_X8_83 rfl rfl rfl ⟨Nat.le_of_ble_eq_true rfl, Nat.le_of_ble_eq_true rfl, rfl, rfl⟩ [0, 1, 2] rfl rfl ⟨Nat.zero_le _, Nat.zero_le _⟩ rfl (Nat.le_of_ble_eq_true rfl) dX8_minuteOn_2) hP hD hS hA [0, 1, 2] rfl ads3 (fun H locs hP hD hS => ?_)
  replace hP : va_P G vwCl ([(h, .inr (8, moF b ((sX8_find q jb f n).1))), ((b 7), .inl (kk 0, 6, .inl ((sX8_find q jb f n).2))), (ra, .inl (kk 0, 64, .inl f))]) H := hP
  replace hD : va_D A ([(h, .inr (8, moF b ((sX8_find q jb f n).1))), ((b 7), .inl (kk 0, 6, .inl ((sX8_find q jb f n).2))), (ra, .inl (kk 0, 64, .inl f))]) := hD
  have eS : sX8_minuteOn q jb f n = sX8_minuteOn_z_1 q jb f n (sX8_find q jb f n) := eS
  generalize sX8_find q jb f n = z_1 at hP hD eS ⊢
  refine lv_aload_n hx hb dX8_minuteOn_5 rfl (lv_at hl 1 rfl) ?_
  refine lv_aload_n hx hb dX8_minuteOn_6 rfl (lv_at hl 0 rfl) ?_
  refine r_get (v := .int (z_1.1 10)) hx hb hts hown hK hP fl_X8_48 0 rfl rfl dX8_minuteOn_7 ?_
  refine k_goV (k_runS (rest := []) (As := [.ref ra, .int (z_1.1 10)]) hx hb hml hown hts hK hP hD hS hA hE hl.1 (c_X8_measure l G kk ra f (z_1.1 10) ) sl_X8_86 ⟨Nat.le_of_ble_eq_true rfl, Nat.le_of_ble_eq_true rfl, rfl, rfl⟩ [2] rfl rfl ⟨Nat.zero_le _, Nat.zero_le _⟩ rfl (Nat.le_of_ble_eq_true rfl) dX8_minuteOn_10) hP hD hS hA [2] rfl ads1 (fun H locs hP hD hS => ?_)
  replace hP : va_P G vwCl ([(h, .inr (8, moF b z_1.1)), ((b 7), .inl (kk 0, 6, .inl z_1.2)), (ra, .inl (kk 0, 64, .inl (sX8_measure f (z_1.1 10))))]) H := hP
  replace hD : va_D A ([(h, .inr (8, moF b z_1.1)), ((b 7), .inl (kk 0, 6, .inl z_1.2)), (ra, .inl (kk 0, 64, .inl (sX8_measure f (z_1.1 10))))]) := hD
  have eS : sX8_minuteOn q jb f n = sX8_minuteOn_z_2 q jb f n z_1 (sX8_measure f (z_1.1 10)) := eS
  have hz_2 := me_0 f (z_1.1 10)
  generalize sX8_measure f (z_1.1 10) = z_2 at hP hD eS hz_2 ⊢
  refine lv_iconst (v := 0) hx hb dX8_minuteOn_13 (by decide) ?_
  refine lv_istore_n (lv' := [(2, .int 0), (0, .ref h), (1, .ref ra)]) hx hb dX8_minuteOn_14 rfl hl (by decide) rfl (fun ls hl => ?_)
  have L_4 : ∀ (d : Nat) (i : Nat) (f1 : Nat → Int32) (hd : i + d = n) (hf : f1 0 = nI n) (eS : sX8_minuteOn q jb f n = lp_X8_minuteOn_15 q jb f n z_1 z_2 d i f1) (H : Heap) (locs : List Loc) (ls : Array Slot) (hP : va_P G vwCl ([(h, .inr (8, moF b z_1.1)), ((b 7), .inl (kk 0, 6, .inl z_1.2)), (ra, .inl (kk 0, 64, .inl f1))]) H) (hD : va_D A ([(h, .inr (8, moF b z_1.1)), ((b 7), .inl (kk 0, 6, .inl z_1.2)), (ra, .inl (kk 0, 64, .inl f1))])) (hS : va_S A s.heap H locs) (hl : lv_has ls 3 [(0, .ref h), (1, .ref ra), (2, .int (nI i))]), GO p l e (rmO 4 90) s m ([.ref h, .ref ra] : List Value).toArray below meth c A (QV G kk ([(h, .inr (8, moF b ((sX8_minuteOn q jb f n).1))), ((b 7), .inl (kk 0, 6, .inl ((sX8_minuteOn q jb f n).2.1))), (ra, .inl (kk 0, 64, .inl ((sX8_minuteOn q jb f n).2.2)))])) H locs (F0 m 15 ls []) := by
    intro d
    induction d with
    | zero =>
      intro i f1 hd hf eS H locs ls hP hD hS hl
      refine lv_iload_n hx hb dX8_minuteOn_15 rfl (lv_at hl 2 rfl) ?_
      refine lv_aload_n hx hb dX8_minuteOn_16 rfl (lv_at hl 1 rfl) ?_
      refine lv_iconst (v := 0) hx hb dX8_minuteOn_17 (by decide) ?_
      refine r_iald hx hb hK hP 2 rfl 0 rfl (by decide) (by decide) dX8_minuteOn_18 ?_
      refine lv_icmp_ge (tgt := 34) hx hb dX8_minuteOn_19 (by decide) (fun c_19 => ?_) (fun c_19 => absurd (fle hf (by omega) (by omega)) c_19)
      exact fin_v hx hb hr hlocks hK (vP_eq (congrArg (fun z : (Nat → Int32) × (Nat → Int32) × (Nat → Int32) => ([(h, .inr (8, moF b z.1)), ((b 7), .inl (kk 0, 6, .inl z.2.1)), (ra, .inl (kk 0, 64, .inl z.2.2))] : va_W)) eS.symm) hP) (vD_eq (congrArg (fun z : (Nat → Int32) × (Nat → Int32) × (Nat → Int32) => ([(h, .inr (8, moF b z.1)), ((b 7), .inl (kk 0, 6, .inl z.2.1)), (ra, .inl (kk 0, 64, .inl z.2.2))] : va_W)) eS.symm) hD) hS dX8_minuteOn_34
    | succ d ih =>
      intro i f1 hd hf eS H locs ls hP hD hS hl
      refine lv_iload_n hx hb dX8_minuteOn_15 rfl (lv_at hl 2 rfl) ?_
      refine lv_aload_n hx hb dX8_minuteOn_16 rfl (lv_at hl 1 rfl) ?_
      refine lv_iconst (v := 0) hx hb dX8_minuteOn_17 (by decide) ?_
      refine r_iald hx hb hK hP 2 rfl 0 rfl (by decide) (by decide) dX8_minuteOn_18 ?_
      refine lv_icmp_ge (tgt := 34) hx hb dX8_minuteOn_19 (by decide) (fun c_19 => absurd c_19 (fgt hf (by omega) (by omega))) (fun c_19 => ?_)
      refine lv_aload_n hx hb dX8_minuteOn_22 rfl (lv_at hl 0 rfl) ?_
      refine lv_aload_n hx hb dX8_minuteOn_23 rfl (lv_at hl 1 rfl) ?_
      refine lv_iload_n hx hb dX8_minuteOn_24 rfl (lv_at hl 2 rfl) ?_
      refine k_goV (k_runV (rest := []) (As := [.ref ra, .int (nI i)]) hx hb hml hown hts hK hP hD hS hA hE hl.1 (c_X8_roomOn l G kk h b z_1.1 z_1.2 ra f1 i (by omega)) vl_X8_90 rfl rfl rfl ⟨Nat.le_of_ble_eq_true rfl, Nat.le_of_ble_eq_true rfl, rfl, rfl⟩ [0, 1, 2] rfl rfl ⟨Nat.zero_le _, Nat.zero_le _⟩ rfl (Nat.le_of_ble_eq_true rfl) dX8_minuteOn_25) hP hD hS hA [0, 1, 2] rfl ads3 (fun H locs hP hD hS => ?_)
      replace hP : va_P G vwCl ([(h, .inr (8, moF b z_1.1)), ((b 7), .inl (kk 0, 6, .inl z_1.2)), (ra, .inl (kk 0, 64, .inl (sX8_roomOn z_1.2 f1 i)))]) H := hP
      replace hD : va_D A ([(h, .inr (8, moF b z_1.1)), ((b 7), .inl (kk 0, 6, .inl z_1.2)), (ra, .inl (kk 0, 64, .inl (sX8_roomOn z_1.2 f1 i)))]) := hD
      have eS : sX8_minuteOn q jb f n = (fun (z_3 : (Nat → Int32)) => (lp_X8_minuteOn_15 q jb f n z_1 z_2 d (i + 1) z_3)) (sX8_roomOn z_1.2 f1 i) := eS
      have hz_3 := ro_0 (i := i) (by omega) z_1.2 f1
      generalize sX8_roomOn z_1.2 f1 i = z_3 at hP hD eS hz_3 ⊢
      refine lv_iinc (v := (nI (i + 1))) (lv' := [(2, .int (nI (i + 1))), (0, .ref h), (1, .ref ra)]) hx hb dX8_minuteOn_28 hl (k := 2) rfl (nI_add i 1) (by decide) rfl (fun ls hl => ?_)
      refine lv_goto (tgt := 15) hx hb dX8_minuteOn_31 (by decide) ?_
      exact ih (i + 1) z_3 (by omega) (hz_3.trans hf) eS _ _ ls hP hD hS (lv_sub hl [1, 2, 0] rfl)
  exact L_4 n 0 z_2 (Nat.zero_add _) (hz_2.trans hn) eS _ _ ls hP hD hS (lv_sub hl [1, 2, 0] rfl)
theorem mn_00 {q jb f : Nat → Int32} {n : Nat} {z : (Nat → Int32) × (Nat → Int32)} {z2 : Nat → Int32} : ∀ (d i : Nat) (f1 : Nat → Int32), i + d ≤ 6 → (lp_X8_minuteOn_15 q jb f n z z2 d i f1).2.2 0 = f1 0
  | 0, i, f1, h => rfl
  | d + 1, i, f1, h => by
    show (lp_X8_minuteOn_15 q jb f n z z2 d (i + 1) (sX8_roomOn z.2 f1 i)).2.2 0 = f1 0
    rw [mn_00 d (i + 1) _ (by omega), ro_0 (by omega)]
theorem mn_0 {n : Nat} (h6 : n ≤ 6) (q jb f : Nat → Int32) : (sX8_minuteOn q jb f n).2.2 0 = f 0 := by
  show (lp_X8_minuteOn_15 q jb f n (sX8_find q jb f n) (sX8_measure f ((sX8_find q jb f n).1 10)) n 0 (sX8_measure f ((sX8_find q jb f n).1 10))).2.2 0 = f 0
  rw [mn_00 n 0 _ (by omega), me_0]
def lp_X8_runOn_7 (q : Nat → Int32) (jb : Nat → Int32) (f : Nat → Int32) (m0 : Int32) (n : Nat) : Nat → Nat → (Nat → Int32) → (Nat → Int32) → (Nat → Int32) → Int32 × (Nat → Int32) × (Nat → Int32) × (Nat → Int32)
  | 0, i, q1, jb1, f1 => (((f1 5) - (f 5)), q1, jb1, f1)
  | d + 1, i, q1, jb1, f1 => ((fun (z_1 : (Nat → Int32) × (Nat → Int32) × (Nat → Int32)) => (lp_X8_runOn_7 q jb f m0 n d (i + 1) z_1.1 z_1.2.1 z_1.2.2)) (sX8_minuteOn q1 jb1 f1 n))
def sX8_runOn (q : Nat → Int32) (jb : Nat → Int32) (f : Nat → Int32) (m0 : Int32) (n : Nat) : Int32 × (Nat → Int32) × (Nat → Int32) × (Nat → Int32) :=
  (lp_X8_runOn_7 q jb f m0 n m0.toNatClampNeg 0 q jb f)
set_option maxRecDepth 100000 in
set_option maxHeartbeats 4000000 in
theorem c_X8_runOn (l : Launch) (G : va_G) (kk : Nat → ClassId) (h : Nat) (b : Nat → Nat) (q : Nat → Int32) (jb : Nat → Int32) (ra : Nat) (f : Nat → Int32) (m0 : Int32) (n : Nat) (hn : f 0 = nI n) (h6 : n ≤ 6) (hm : m0 = nI m0.toNatClampNeg) : CC l yX8_runOn cX8_runOn 5 (some .int) (rmO 5 112) [.ref h, .ref ra, .int m0] G kk ([(h, .inr (8, moF b q)), ((b 7), .inl (kk 0, 6, .inl jb)), (ra, .inl (kk 0, 64, .inl f))]) (QI G kk ([(h, .inr (8, moF b ((sX8_runOn q jb f m0 n).2.1))), ((b 7), .inl (kk 0, 6, .inl ((sX8_runOn q jb f m0 n).2.2.1))), (ra, .inl (kk 0, 64, .inl ((sX8_runOn q jb f m0 n).2.2.2)))]) ((sX8_runOn q jb f m0 n).1)) := by
  refine cc_start (by decide +kernel) (Nat.le_of_ble_eq_true rfl) ?_
  intro p e s m below meth c A ls hx hb hr hml hown hts hlocks hA hE hK hP hD hS hl
  have hown : s.vm.findClass RX8 = some m.cls := hown
  have hl : lv_has ls 5 [(0, .ref h), (1, .ref ra), (2, .int m0)] := hl
  have eS : sX8_runOn q jb f m0 n = sX8_runOn q jb f m0 n := rfl
  refine lv_aload_n hx hb dX8_runOn_0 rfl (lv_at hl 1 rfl) ?_
  refine lv_iconst (v := 5) hx hb dX8_runOn_1 (by decide) ?_
  refine r_iald hx hb hK hP 2 rfl 5 rfl (by decide) (by decide) dX8_runOn_2 ?_
  refine lv_istore_n (lv' := [(3, .int (f 5)), (0, .ref h), (1, .ref ra), (2, .int m0)]) hx hb dX8_runOn_3 rfl hl (by decide) rfl (fun ls hl => ?_)
  refine lv_iconst (v := 0) hx hb dX8_runOn_4 (by decide) ?_
  refine lv_istore (lv' := [(4, .int 0), (3, .int (f 5)), (0, .ref h), (1, .ref ra), (2, .int m0)]) hx hb dX8_runOn_5 hl (by decide) rfl (fun ls hl => ?_)
  have L_2 : ∀ (d : Nat) (i : Nat) (q1 : Nat → Int32) (jb1 : Nat → Int32) (f1 : Nat → Int32) (hd : i + d = m0.toNatClampNeg) (hf : f1 0 = nI n) (eS : sX8_runOn q jb f m0 n = lp_X8_runOn_7 q jb f m0 n d i q1 jb1 f1) (H : Heap) (locs : List Loc) (ls : Array Slot) (hP : va_P G vwCl ([(h, .inr (8, moF b q1)), ((b 7), .inl (kk 0, 6, .inl jb1)), (ra, .inl (kk 0, 64, .inl f1))]) H) (hD : va_D A ([(h, .inr (8, moF b q1)), ((b 7), .inl (kk 0, 6, .inl jb1)), (ra, .inl (kk 0, 64, .inl f1))])) (hS : va_S A s.heap H locs) (hl : lv_has ls 5 [(3, .int (f 5)), (0, .ref h), (1, .ref ra), (2, .int m0), (4, .int (nI i))]), GO p l e (rmO 5 112) s m ([.ref h, .ref ra, .int m0] : List Value).toArray below meth c A (QI G kk ([(h, .inr (8, moF b ((sX8_runOn q jb f m0 n).2.1))), ((b 7), .inl (kk 0, 6, .inl ((sX8_runOn q jb f m0 n).2.2.1))), (ra, .inl (kk 0, 64, .inl ((sX8_runOn q jb f m0 n).2.2.2)))]) ((sX8_runOn q jb f m0 n).1)) H locs (F0 m 7 ls []) := by
    intro d
    induction d with
    | zero =>
      intro i q1 jb1 f1 hd hf eS H locs ls hP hD hS hl
      refine lv_iload hx hb dX8_runOn_7 (lv_at hl 4 rfl) ?_
      refine lv_iload_n hx hb dX8_runOn_9 rfl (lv_at hl 3 rfl) ?_
      refine lv_icmp_ge (tgt := 24) hx hb dX8_runOn_10 (by decide) (fun c_10 => ?_) (fun c_10 => absurd (cl_le hm (by omega) (by have := @cl_b m0; omega)) c_10)
      refine lv_aload_n hx hb dX8_runOn_24 rfl (lv_at hl 2 rfl) ?_
      refine lv_iconst (v := 5) hx hb dX8_runOn_25 (by decide) ?_
      refine r_iald hx hb hK hP 2 rfl 5 rfl (by decide) (by decide) dX8_runOn_26 ?_
      refine lv_iload_n hx hb dX8_runOn_27 rfl (lv_at hl 0 rfl) ?_
      refine lv_isub hx hb dX8_runOn_28 ?_
      exact fin_i hx hb hr hlocks hK (vP_eq (congrArg (fun z : Int32 × (Nat → Int32) × (Nat → Int32) × (Nat → Int32) => ([(h, .inr (8, moF b z.2.1)), ((b 7), .inl (kk 0, 6, .inl z.2.2.1)), (ra, .inl (kk 0, 64, .inl z.2.2.2))] : va_W)) eS.symm) hP) (vD_eq (congrArg (fun z : Int32 × (Nat → Int32) × (Nat → Int32) × (Nat → Int32) => ([(h, .inr (8, moF b z.2.1)), ((b 7), .inl (kk 0, 6, .inl z.2.2.1)), (ra, .inl (kk 0, 64, .inl z.2.2.2))] : va_W)) eS.symm) hD) hS (congrArg (fun z : Int32 × (Nat → Int32) × (Nat → Int32) × (Nat → Int32) => z.1) eS) dX8_runOn_29
    | succ d ih =>
      intro i q1 jb1 f1 hd hf eS H locs ls hP hD hS hl
      refine lv_iload hx hb dX8_runOn_7 (lv_at hl 4 rfl) ?_
      refine lv_iload_n hx hb dX8_runOn_9 rfl (lv_at hl 3 rfl) ?_
      refine lv_icmp_ge (tgt := 24) hx hb dX8_runOn_10 (by decide) (fun c_10 => absurd c_10 (cl_gt hm (by omega) cl_b)) (fun c_10 => ?_)
      refine lv_aload_n hx hb dX8_runOn_13 rfl (lv_at hl 1 rfl) ?_
      refine lv_aload_n hx hb dX8_runOn_14 rfl (lv_at hl 2 rfl) ?_
      refine k_goV (k_runV (rest := []) (As := [.ref ra]) hx hb hml hown hts hK hP hD hS hA hE hl.1 (c_X8_minuteOn l G kk h b q1 jb1 ra f1 n hf h6) vl_X8_93 rfl rfl rfl ⟨Nat.le_of_ble_eq_true rfl, Nat.le_of_ble_eq_true rfl, rfl, rfl⟩ [0, 1, 2] rfl rfl ⟨Nat.zero_le _, Nat.zero_le _⟩ rfl (Nat.le_of_ble_eq_true rfl) dX8_runOn_15) hP hD hS hA [0, 1, 2] rfl ads3 (fun H locs hP hD hS => ?_)
      replace hP : va_P G vwCl ([(h, .inr (8, moF b ((sX8_minuteOn q1 jb1 f1 n).1))), ((b 7), .inl (kk 0, 6, .inl ((sX8_minuteOn q1 jb1 f1 n).2.1))), (ra, .inl (kk 0, 64, .inl ((sX8_minuteOn q1 jb1 f1 n).2.2)))]) H := hP
      replace hD : va_D A ([(h, .inr (8, moF b ((sX8_minuteOn q1 jb1 f1 n).1))), ((b 7), .inl (kk 0, 6, .inl ((sX8_minuteOn q1 jb1 f1 n).2.1))), (ra, .inl (kk 0, 64, .inl ((sX8_minuteOn q1 jb1 f1 n).2.2)))]) := hD
      have eS : sX8_runOn q jb f m0 n = (fun (z_1 : (Nat → Int32) × (Nat → Int32) × (Nat → Int32)) => (lp_X8_runOn_7 q jb f m0 n d (i + 1) z_1.1 z_1.2.1 z_1.2.2)) (sX8_minuteOn q1 jb1 f1 n) := eS
      have hz_1 := mn_0 h6 q1 jb1 f1
      generalize sX8_minuteOn q1 jb1 f1 n = z_1 at hP hD eS hz_1 ⊢
      refine lv_iinc (v := (nI (i + 1))) (lv' := [(4, .int (nI (i + 1))), (3, .int (f 5)), (0, .ref h), (1, .ref ra), (2, .int m0)]) hx hb dX8_runOn_18 hl (k := 4) rfl (nI_add i 1) (by decide) rfl (fun ls hl => ?_)
      refine lv_goto (tgt := 7) hx hb dX8_runOn_21 (by decide) ?_
      exact ih (i + 1) z_1.1 z_1.2.1 z_1.2.2 (by omega) (hz_1.trans hf) eS _ _ ls hP hD hS (lv_sub hl [1, 2, 3, 4, 0] rfl)
  exact L_2 m0.toNatClampNeg 0 q jb f (Nat.zero_add _) hn eS _ _ ls hP hD hS (lv_sub hl [1, 2, 3, 4, 0] rfl)
def sX8_isNew (x : Int32) (y : Int32) (z : Int32) : Int32 :=
  (if (sX8_in (x.toInt64) 1 50) = 0 then 0 else (if (sX8_in (y.toInt64) (-300) 200) = 0 then 0 else (if (sX8_in (z.toInt64) ((y + 1).toInt64) 200) = 0 then 0 else 1)))
set_option maxRecDepth 100000 in
set_option maxHeartbeats 4000000 in
theorem c_X8_isNew (l : Launch) (G : va_G) (kk : Nat → ClassId) (x : Int32) (y : Int32) (z : Int32)  : CC l yX8_isNew cX8_isNew 3 (some .boolean) (rmO 1 25) [.int x, .int y, .int z] G kk ([]) (QI G kk ([]) (sX8_isNew x y z)) := by
  refine cc_start (by decide +kernel) (Nat.le_of_ble_eq_true rfl) ?_
  intro p e s m below meth c A ls hx hb hr hml hown hts hlocks hA hE hK hP hD hS hl
  have hown : s.vm.findClass RX8 = some m.cls := hown
  have hl : lv_has ls 3 [(0, .int x), (1, .int y), (2, .int z)] := hl
  have eS : sX8_isNew x y z = sX8_isNew x y z := rfl
  refine lv_iload_n hx hb dX8_isNew_0 rfl (lv_at hl 0 rfl) ?_
  refine lv_i2l (v := (x.toInt64)) hx hb dX8_isNew_1 (by first | rfl | decide) ?_
  refine lv_lconst (v := 1) hx hb dX8_isNew_2 rfl ?_
  refine lv_ldc2 (v := 50) hx hb hown (hts _ kl_X8_96) dX8_isNew_3 ?_
  refine k_goI (k_runS (rest := []) (As := [.long (x.toInt64), .long 1, .long 50]) hx hb hml hown hts hK hP hD hS hA hE hl.1 (c_X8_in l G kk (x.toInt64) 1 50 ) sl_X8_40 ⟨Nat.le_of_ble_eq_true rfl, Nat.le_of_ble_eq_true rfl, rfl, rfl⟩ [] rfl rfl ⟨Nat.zero_le _, Nat.zero_le _⟩ rfl (Nat.le_of_ble_eq_true rfl) dX8_isNew_6) hP hD hS hA [] rfl ads0 (fun H locs hP hD hS => ?_)
  replace hP : va_P G vwCl ([]) H := hP
  replace hD : va_D A ([]) := hD
  refine lv_if_eq (tgt := 45) hx hb dX8_isNew_9 (by decide) (fun c_9 => ?_) (fun c_9 => ?_)
  · have eS := eS.trans (if_pos c_9)
    refine lv_iconst (v := 0) hx hb dX8_isNew_45 (by decide) ?_
    exact fin_z hx hb hr hlocks hK hP hD hS eS rfl dX8_isNew_46
  · have eS := eS.trans (if_neg c_9)
    refine lv_iload_n hx hb dX8_isNew_12 rfl (lv_at hl 1 rfl) ?_
    refine lv_i2l (v := (y.toInt64)) hx hb dX8_isNew_13 (by first | rfl | decide) ?_
    refine lv_ldc2 (v := (-300)) hx hb hown (hts _ kl_X8_98) dX8_isNew_14 ?_
    refine lv_ldc2 (v := 200) hx hb hown (hts _ kl_X8_100) dX8_isNew_17 ?_
    refine k_goI (k_runS (rest := []) (As := [.long (y.toInt64), .long (-300), .long 200]) hx hb hml hown hts hK hP hD hS hA hE hl.1 (c_X8_in l G kk (y.toInt64) (-300) 200 ) sl_X8_40 ⟨Nat.le_of_ble_eq_true rfl, Nat.le_of_ble_eq_true rfl, rfl, rfl⟩ [] rfl rfl ⟨Nat.zero_le _, Nat.zero_le _⟩ rfl (Nat.le_of_ble_eq_true rfl) dX8_isNew_20) hP hD hS hA [] rfl ads0 (fun H locs hP hD hS => ?_)
    replace hP : va_P G vwCl ([]) H := hP
    replace hD : va_D A ([]) := hD
    refine lv_if_eq (tgt := 45) hx hb dX8_isNew_23 (by decide) (fun c_23 => ?_) (fun c_23 => ?_)
    · have eS := eS.trans (if_pos c_23)
      refine lv_iconst (v := 0) hx hb dX8_isNew_45 (by decide) ?_
      exact fin_z hx hb hr hlocks hK hP hD hS eS rfl dX8_isNew_46
    · have eS := eS.trans (if_neg c_23)
      refine lv_iload_n hx hb dX8_isNew_26 rfl (lv_at hl 2 rfl) ?_
      refine lv_i2l (v := (z.toInt64)) hx hb dX8_isNew_27 (by first | rfl | decide) ?_
      refine lv_iload_n hx hb dX8_isNew_28 rfl (lv_at hl 1 rfl) ?_
      refine lv_iconst (v := 1) hx hb dX8_isNew_29 (by decide) ?_
      refine lv_iadd hx hb dX8_isNew_30 ?_
      refine lv_i2l (v := ((y + 1).toInt64)) hx hb dX8_isNew_31 (by first | rfl | decide) ?_
      refine lv_ldc2 (v := 200) hx hb hown (hts _ kl_X8_100) dX8_isNew_32 ?_
      refine k_goI (k_runS (rest := []) (As := [.long (z.toInt64), .long ((y + 1).toInt64), .long 200]) hx hb hml hown hts hK hP hD hS hA hE hl.1 (c_X8_in l G kk (z.toInt64) ((y + 1).toInt64) 200 ) sl_X8_40 ⟨Nat.le_of_ble_eq_true rfl, Nat.le_of_ble_eq_true rfl, rfl, rfl⟩ [] rfl rfl ⟨Nat.zero_le _, Nat.zero_le _⟩ rfl (Nat.le_of_ble_eq_true rfl) dX8_isNew_35) hP hD hS hA [] rfl ads0 (fun H locs hP hD hS => ?_)
      replace hP : va_P G vwCl ([]) H := hP
      replace hD : va_D A ([]) := hD
      refine lv_if_eq (tgt := 45) hx hb dX8_isNew_38 (by decide) (fun c_38 => ?_) (fun c_38 => ?_)
      · have eS := eS.trans (if_pos c_38)
        refine lv_iconst (v := 0) hx hb dX8_isNew_45 (by decide) ?_
        exact fin_z hx hb hr hlocks hK hP hD hS eS rfl dX8_isNew_46
      · have eS := eS.trans (if_neg c_38)
        refine lv_iconst (v := 1) hx hb dX8_isNew_41 (by decide) ?_
        refine lv_goto (tgt := 46) hx hb dX8_isNew_42 (by decide) ?_
        exact fin_z hx hb hr hlocks hK hP hD hS eS rfl dX8_isNew_46
def sX8_addOn_z_4 (f : Nat → Int32) (n : Nat) (x : Int32) (y : Int32) (z : Int32) (i : Nat) (f1 : Nat → Int32) (z_1 : (Nat → Int32)) (z_2 : (Nat → Int32)) (z_3 : (Nat → Int32)) (z_4 : (Nat → Int32)) : Int32 × (Nat → Int32) :=
  ((nI n), (upd z_4 0 ((z_4 0) + 1)))
def sX8_addOn_z_3 (f : Nat → Int32) (n : Nat) (x : Int32) (y : Int32) (z : Int32) (i : Nat) (f1 : Nat → Int32) (z_1 : (Nat → Int32)) (z_2 : (Nat → Int32)) (z_3 : (Nat → Int32)) : Int32 × (Nat → Int32) :=
  (sX8_addOn_z_4 f n x y z i f1 z_1 z_2 z_3 (sX8_lay z_3 n 3 y))
def sX8_addOn_z_2 (f : Nat → Int32) (n : Nat) (x : Int32) (y : Int32) (z : Int32) (i : Nat) (f1 : Nat → Int32) (z_1 : (Nat → Int32)) (z_2 : (Nat → Int32)) : Int32 × (Nat → Int32) :=
  (sX8_addOn_z_3 f n x y z i f1 z_1 z_2 (sX8_lay z_2 n 2 z))
def sX8_addOn_z_1 (f : Nat → Int32) (n : Nat) (x : Int32) (y : Int32) (z : Int32) (i : Nat) (f1 : Nat → Int32) (z_1 : (Nat → Int32)) : Int32 × (Nat → Int32) :=
  (sX8_addOn_z_2 f n x y z i f1 z_1 (sX8_lay z_1 n 1 y))
def lp_X8_addOn_8 (f : Nat → Int32) (n : Nat) (x : Int32) (y : Int32) (z : Int32) : Nat → Nat → (Nat → Int32) → Int32 × (Nat → Int32)
  | 0, i, f1 => (sX8_addOn_z_1 f n x y z i f1 (sX8_lay f1 n 0 x))
  | d + 1, i, f1 => ((fun (z_5 : (Nat → Int32)) => (lp_X8_addOn_8 f n x y z d (i + 1) z_5)) (sX8_lay f1 n i 0))
def sX8_addOn (f : Nat → Int32) (n : Nat) (x : Int32) (y : Int32) (z : Int32) : Int32 × (Nat → Int32) :=
  (lp_X8_addOn_8 f n x y z 8 0 f)
set_option maxRecDepth 100000 in
set_option maxHeartbeats 4000000 in
theorem c_X8_addOn (l : Launch) (G : va_G) (kk : Nat → ClassId) (ra : Nat) (f : Nat → Int32) (n : Nat) (x : Int32) (y : Int32) (z : Int32) (hn : f 0 = nI n) (h5 : n < 6) : CC l yX8_addOn cX8_addOn 6 (some .int) (rmO 1 23) [.ref ra, .int x, .int y, .int z] G kk ([(ra, .inl (kk 0, 64, .inl f))]) (QI G kk ([(ra, .inl (kk 0, 64, .inl ((sX8_addOn f n x y z).2)))]) ((sX8_addOn f n x y z).1)) := by
  refine cc_start (by decide +kernel) (Nat.le_of_ble_eq_true rfl) ?_
  intro p e s m below meth c A ls hx hb hr hml hown hts hlocks hA hE hK hP hD hS hl
  have hown : s.vm.findClass RX8 = some m.cls := hown
  have hl : lv_has ls 6 [(0, .ref ra), (1, .int x), (2, .int y), (3, .int z)] := hl
  have eS : sX8_addOn f n x y z = sX8_addOn f n x y z := rfl
  refine lv_aload_n hx hb dX8_addOn_0 rfl (lv_at hl 0 rfl) ?_
  refine lv_iconst (v := 0) hx hb dX8_addOn_1 (by decide) ?_
  refine r_iald hx hb hK hP 0 rfl 0 rfl (by decide) (by decide) dX8_addOn_2 ?_
  refine top_eq (y := (nI n)) (hn) ?_
  refine lv_istore (lv' := [(4, .int (nI n)), (0, .ref ra), (1, .int x), (2, .int y), (3, .int z)]) hx hb dX8_addOn_3 hl (by decide) rfl (fun ls hl => ?_)
  refine lv_iconst (v := 0) hx hb dX8_addOn_5 (by decide) ?_
  refine lv_istore (lv' := [(5, .int 0), (4, .int (nI n)), (0, .ref ra), (1, .int x), (2, .int y), (3, .int z)]) hx hb dX8_addOn_6 hl (by decide) rfl (fun ls hl => ?_)
  have L_6 : ∀ (d : Nat) (i : Nat) (f1 : Nat → Int32) (hd : i + d = 8) (eS : sX8_addOn f n x y z = lp_X8_addOn_8 f n x y z d i f1) (H : Heap) (locs : List Loc) (ls : Array Slot) (hP : va_P G vwCl ([(ra, .inl (kk 0, 64, .inl f1))]) H) (hD : va_D A ([(ra, .inl (kk 0, 64, .inl f1))])) (hS : va_S A s.heap H locs) (hl : lv_has ls 6 [(4, .int (nI n)), (0, .ref ra), (1, .int x), (2, .int y), (3, .int z), (5, .int (nI i))]), GO p l e (rmO 1 23) s m ([.ref ra, .int x, .int y, .int z] : List Value).toArray below meth c A (QI G kk ([(ra, .inl (kk 0, 64, .inl ((sX8_addOn f n x y z).2)))]) ((sX8_addOn f n x y z).1)) H locs (F0 m 8 ls []) := by
    intro d
    induction d with
    | zero =>
      intro i f1 hd eS H locs ls hP hD hS hl
      refine lv_iload hx hb dX8_addOn_8 (lv_at hl 5 rfl) ?_
      refine lv_bipush (v := 8) hx hb dX8_addOn_10 (by decide) ?_
      refine lv_icmp_ge (tgt := 30) hx hb dX8_addOn_12 (by decide) (fun c_12 => ?_) (fun c_12 => absurd (nI_le (a := 8) (b := i) (by omega) (by omega)) c_12)
      refine lv_aload_n hx hb dX8_addOn_30 rfl (lv_at hl 1 rfl) ?_
      refine lv_iload hx hb dX8_addOn_31 (lv_at hl 0 rfl) ?_
      refine lv_iconst (v := 0) hx hb dX8_addOn_33 (by decide) ?_
      refine lv_iload_n hx hb dX8_addOn_34 rfl (lv_at hl 2 rfl) ?_
      refine k_goV (k_runS (rest := []) (As := [.ref ra, .int (nI n), .int 0, .int x]) hx hb hml hown hts hK hP hD hS hA hE hl.1 (c_X8_lay l G kk ra f1 n 0 x (by omega)) sl_X8_79 ⟨Nat.le_of_ble_eq_true rfl, Nat.le_of_ble_eq_true rfl, rfl, rfl⟩ [0] rfl rfl ⟨Nat.zero_le _, Nat.zero_le _⟩ rfl (Nat.le_of_ble_eq_true rfl) dX8_addOn_35) hP hD hS hA [0] rfl ads1 (fun H locs hP hD hS => ?_)
      replace hP : va_P G vwCl ([(ra, .inl (kk 0, 64, .inl (sX8_lay f1 n 0 x)))]) H := hP
      replace hD : va_D A ([(ra, .inl (kk 0, 64, .inl (sX8_lay f1 n 0 x)))]) := hD
      have eS : sX8_addOn f n x y z = sX8_addOn_z_1 f n x y z i f1 (sX8_lay f1 n 0 x) := eS
      have hz_1 := (lay_0 (f := f1) (i := n) (w := 0) (v := x))
      generalize sX8_lay f1 n 0 x = z_1 at hP hD eS hz_1 ⊢
      refine lv_aload_n hx hb dX8_addOn_38 rfl (lv_at hl 1 rfl) ?_
      refine lv_iload hx hb dX8_addOn_39 (lv_at hl 0 rfl) ?_
      refine lv_iconst (v := 1) hx hb dX8_addOn_41 (by decide) ?_
      refine lv_iload_n hx hb dX8_addOn_42 rfl (lv_at hl 3 rfl) ?_
      refine k_goV (k_runS (rest := []) (As := [.ref ra, .int (nI n), .int 1, .int y]) hx hb hml hown hts hK hP hD hS hA hE hl.1 (c_X8_lay l G kk ra z_1 n 1 y (by omega)) sl_X8_79 ⟨Nat.le_of_ble_eq_true rfl, Nat.le_of_ble_eq_true rfl, rfl, rfl⟩ [0] rfl rfl ⟨Nat.zero_le _, Nat.zero_le _⟩ rfl (Nat.le_of_ble_eq_true rfl) dX8_addOn_43) hP hD hS hA [0] rfl ads1 (fun H locs hP hD hS => ?_)
      replace hP : va_P G vwCl ([(ra, .inl (kk 0, 64, .inl (sX8_lay z_1 n 1 y)))]) H := hP
      replace hD : va_D A ([(ra, .inl (kk 0, 64, .inl (sX8_lay z_1 n 1 y)))]) := hD
      have eS : sX8_addOn f n x y z = sX8_addOn_z_2 f n x y z i f1 z_1 (sX8_lay z_1 n 1 y) := eS
      have hz_2 := (lay_0 (f := z_1) (i := n) (w := 1) (v := y))
      generalize sX8_lay z_1 n 1 y = z_2 at hP hD eS hz_2 ⊢
      refine lv_aload_n hx hb dX8_addOn_46 rfl (lv_at hl 1 rfl) ?_
      refine lv_iload hx hb dX8_addOn_47 (lv_at hl 0 rfl) ?_
      refine lv_iconst (v := 2) hx hb dX8_addOn_49 (by decide) ?_
      refine lv_iload_n hx hb dX8_addOn_50 rfl (lv_at hl 4 rfl) ?_
      refine k_goV (k_runS (rest := []) (As := [.ref ra, .int (nI n), .int 2, .int z]) hx hb hml hown hts hK hP hD hS hA hE hl.1 (c_X8_lay l G kk ra z_2 n 2 z (by omega)) sl_X8_79 ⟨Nat.le_of_ble_eq_true rfl, Nat.le_of_ble_eq_true rfl, rfl, rfl⟩ [0] rfl rfl ⟨Nat.zero_le _, Nat.zero_le _⟩ rfl (Nat.le_of_ble_eq_true rfl) dX8_addOn_51) hP hD hS hA [0] rfl ads1 (fun H locs hP hD hS => ?_)
      replace hP : va_P G vwCl ([(ra, .inl (kk 0, 64, .inl (sX8_lay z_2 n 2 z)))]) H := hP
      replace hD : va_D A ([(ra, .inl (kk 0, 64, .inl (sX8_lay z_2 n 2 z)))]) := hD
      have eS : sX8_addOn f n x y z = sX8_addOn_z_3 f n x y z i f1 z_1 z_2 (sX8_lay z_2 n 2 z) := eS
      have hz_3 := (lay_0 (f := z_2) (i := n) (w := 2) (v := z))
      generalize sX8_lay z_2 n 2 z = z_3 at hP hD eS hz_3 ⊢
      refine lv_aload_n hx hb dX8_addOn_54 rfl (lv_at hl 1 rfl) ?_
      refine lv_iload hx hb dX8_addOn_55 (lv_at hl 0 rfl) ?_
      refine lv_iconst (v := 3) hx hb dX8_addOn_57 (by decide) ?_
      refine lv_iload_n hx hb dX8_addOn_58 rfl (lv_at hl 3 rfl) ?_
      refine k_goV (k_runS (rest := []) (As := [.ref ra, .int (nI n), .int 3, .int y]) hx hb hml hown hts hK hP hD hS hA hE hl.1 (c_X8_lay l G kk ra z_3 n 3 y (by omega)) sl_X8_79 ⟨Nat.le_of_ble_eq_true rfl, Nat.le_of_ble_eq_true rfl, rfl, rfl⟩ [0] rfl rfl ⟨Nat.zero_le _, Nat.zero_le _⟩ rfl (Nat.le_of_ble_eq_true rfl) dX8_addOn_59) hP hD hS hA [0] rfl ads1 (fun H locs hP hD hS => ?_)
      replace hP : va_P G vwCl ([(ra, .inl (kk 0, 64, .inl (sX8_lay z_3 n 3 y)))]) H := hP
      replace hD : va_D A ([(ra, .inl (kk 0, 64, .inl (sX8_lay z_3 n 3 y)))]) := hD
      have eS : sX8_addOn f n x y z = sX8_addOn_z_4 f n x y z i f1 z_1 z_2 z_3 (sX8_lay z_3 n 3 y) := eS
      have hz_4 := (lay_0 (f := z_3) (i := n) (w := 3) (v := y))
      generalize sX8_lay z_3 n 3 y = z_4 at hP hD eS hz_4 ⊢
      refine lv_aload_n hx hb dX8_addOn_62 rfl (lv_at hl 1 rfl) ?_
      refine lv_iconst (v := 0) hx hb dX8_addOn_63 (by decide) ?_
      refine lv_dup2_11 hx hb dX8_addOn_64 rfl rfl ?_
      refine r_iald hx hb hK hP 0 rfl 0 rfl (by decide) (by decide) dX8_addOn_65 ?_
      refine lv_iconst (v := 1) hx hb dX8_addOn_66 (by decide) ?_
      refine lv_iadd hx hb dX8_addOn_67 ?_
      refine r_iast hx hb hK hP hD hS 0 rfl 0 rfl (by decide) (by decide) dX8_addOn_68 (fun H locs hP hD hS => ?_)
      replace hP : va_P G vwCl ([(ra, .inl (kk 0, 64, .inl (upd z_4 0 ((z_4 0) + 1))))]) H := hP
      replace hD : va_D A ([(ra, .inl (kk 0, 64, .inl (upd z_4 0 ((z_4 0) + 1))))]) := hD
      refine lv_iload hx hb dX8_addOn_69 (lv_at hl 0 rfl) ?_
      exact fin_i hx hb hr hlocks hK (vP_eq (congrArg (fun z : Int32 × (Nat → Int32) => ([(ra, .inl (kk 0, 64, .inl z.2))] : va_W)) eS.symm) hP) (vD_eq (congrArg (fun z : Int32 × (Nat → Int32) => ([(ra, .inl (kk 0, 64, .inl z.2))] : va_W)) eS.symm) hD) hS (congrArg (fun z : Int32 × (Nat → Int32) => z.1) eS) dX8_addOn_71
    | succ d ih =>
      intro i f1 hd eS H locs ls hP hD hS hl
      refine lv_iload hx hb dX8_addOn_8 (lv_at hl 5 rfl) ?_
      refine lv_bipush (v := 8) hx hb dX8_addOn_10 (by decide) ?_
      refine lv_icmp_ge (tgt := 30) hx hb dX8_addOn_12 (by decide) (fun c_12 => absurd c_12 (nI_ge (a := i) (b := 8) (by omega) (by omega))) (fun c_12 => ?_)
      refine lv_aload_n hx hb dX8_addOn_15 rfl (lv_at hl 1 rfl) ?_
      refine lv_iload hx hb dX8_addOn_16 (lv_at hl 0 rfl) ?_
      refine lv_iload hx hb dX8_addOn_18 (lv_at hl 5 rfl) ?_
      refine lv_iconst (v := 0) hx hb dX8_addOn_20 (by decide) ?_
      refine k_goV (k_runS (rest := []) (As := [.ref ra, .int (nI n), .int (nI i), .int 0]) hx hb hml hown hts hK hP hD hS hA hE hl.1 (c_X8_lay l G kk ra f1 n i 0 (by omega)) sl_X8_79 ⟨Nat.le_of_ble_eq_true rfl, Nat.le_of_ble_eq_true rfl, rfl, rfl⟩ [0] rfl rfl ⟨Nat.zero_le _, Nat.zero_le _⟩ rfl (Nat.le_of_ble_eq_true rfl) dX8_addOn_21) hP hD hS hA [0] rfl ads1 (fun H locs hP hD hS => ?_)
      replace hP : va_P G vwCl ([(ra, .inl (kk 0, 64, .inl (sX8_lay f1 n i 0)))]) H := hP
      replace hD : va_D A ([(ra, .inl (kk 0, 64, .inl (sX8_lay f1 n i 0)))]) := hD
      have eS : sX8_addOn f n x y z = (fun (z_5 : (Nat → Int32)) => (lp_X8_addOn_8 f n x y z d (i + 1) z_5)) (sX8_lay f1 n i 0) := eS
      have hz_5 := (lay_0 (f := f1) (i := n) (w := i) (v := 0))
      generalize sX8_lay f1 n i 0 = z_5 at hP hD eS hz_5 ⊢
      refine lv_iinc (v := (nI (i + 1))) (lv' := [(5, .int (nI (i + 1))), (4, .int (nI n)), (0, .ref ra), (1, .int x), (2, .int y), (3, .int z)]) hx hb dX8_addOn_24 hl (k := 5) rfl (nI_add i 1) (by decide) rfl (fun ls hl => ?_)
      refine lv_goto (tgt := 8) hx hb dX8_addOn_27 (by decide) ?_
      exact ih (i + 1) z_5 (by omega) eS _ _ ls hP hD hS (lv_sub hl [1, 2, 3, 4, 5, 0] rfl)
  exact L_6 8 0 f (Nat.zero_add _) eS _ _ ls hP hD hS (lv_sub hl [1, 2, 3, 4, 5, 0] rfl)
def lp_X8_doorOn_20 (f : Nat → Int32) (n : Nat) (i0 : Nat) (o : Int32) (x_1 : Int32) (z_2 : (Nat → Int32)) : Nat → Nat → Int32 → Int32 × (Nat → Int32)
  | 0, i, t => (t, z_2)
  | d + 1, i, t => (lp_X8_doorOn_20 f n i0 o x_1 z_2 d (i + 1) (t + (sX8_of z_2 i 4)))
def sX8_doorOn_z_2 (f : Nat → Int32) (n : Nat) (i0 : Nat) (o : Int32) (x_1 : Int32) (z_2 : (Nat → Int32)) : Int32 × (Nat → Int32) :=
  (lp_X8_doorOn_20 f n i0 o x_1 z_2 n 0 0)
def sX8_doorOn_j12 (f : Nat → Int32) (n : Nat) (i0 : Nat) (o : Int32) (x_1 : Int32) : Int32 × (Nat → Int32) :=
  (sX8_doorOn_z_2 f n i0 o x_1 (sX8_lay f i0 4 x_1))
def sX8_doorOn (f : Nat → Int32) (n : Nat) (i0 : Nat) (o : Int32) : Int32 × (Nat → Int32) :=
  (sX8_doorOn_j12 f n i0 o (if o = 0 then 0 else 1))
set_option maxRecDepth 100000 in
set_option maxHeartbeats 4000000 in
theorem c_X8_doorOn (l : Launch) (G : va_G) (kk : Nat → ClassId) (ra : Nat) (f : Nat → Int32) (n : Nat) (i0 : Nat) (o : Int32) (hn : f 0 = nI n) (h6 : n ≤ 6) (hi0 : i0 < 6) : CC l yX8_doorOn cX8_doorOn 5 (some .int) (rmO 1 23) [.ref ra, .int (nI i0), .int o] G kk ([(ra, .inl (kk 0, 64, .inl f))]) (QI G kk ([(ra, .inl (kk 0, 64, .inl ((sX8_doorOn f n i0 o).2)))]) ((sX8_doorOn f n i0 o).1)) := by
  refine cc_start (by decide +kernel) (Nat.le_of_ble_eq_true rfl) ?_
  intro p e s m below meth c A ls hx hb hr hml hown hts hlocks hA hE hK hP hD hS hl
  have hown : s.vm.findClass RX8 = some m.cls := hown
  have hl : lv_has ls 5 [(0, .ref ra), (1, .int (nI i0)), (2, .int o)] := hl
  have eS : sX8_doorOn f n i0 o = sX8_doorOn f n i0 o := rfl
  refine lv_aload_n hx hb dX8_doorOn_0 rfl (lv_at hl 0 rfl) ?_
  refine lv_iload_n hx hb dX8_doorOn_1 rfl (lv_at hl 1 rfl) ?_
  refine lv_iconst (v := 4) hx hb dX8_doorOn_2 (by decide) ?_
  refine lv_iload_n hx hb dX8_doorOn_3 rfl (lv_at hl 2 rfl) ?_
  have J_3 : ∀ (x_1 : Int32) (ex_1 : x_1 = (if o = 0 then 0 else 1)) (eS : sX8_doorOn f n i0 o = sX8_doorOn_j12 f n i0 o x_1) (H : Heap) (locs : List Loc) (ls : Array Slot) (hP : va_P G vwCl ([(ra, .inl (kk 0, 64, .inl f))]) H) (hD : va_D A ([(ra, .inl (kk 0, 64, .inl f))])) (hS : va_S A s.heap H locs) (hl : lv_has ls 5 [(0, .ref ra), (1, .int (nI i0)), (2, .int o)]), GO p l e (rmO 1 23) s m ([.ref ra, .int (nI i0), .int o] : List Value).toArray below meth c A (QI G kk ([(ra, .inl (kk 0, 64, .inl ((sX8_doorOn f n i0 o).2)))]) ((sX8_doorOn f n i0 o).1)) H locs (F0 m 12 ls [.int x_1, .int 4, .int (nI i0), .ref ra]) := by
    intro x_1 ex_1 eS H locs ls hP hD hS hl
    refine k_goV (k_runS (rest := []) (As := [.ref ra, .int (nI i0), .int 4, .int x_1]) hx hb hml hown hts hK hP hD hS hA hE hl.1 (c_X8_lay l G kk ra f i0 4 x_1 (by omega)) sl_X8_79 ⟨Nat.le_of_ble_eq_true rfl, Nat.le_of_ble_eq_true rfl, rfl, rfl⟩ [0] rfl rfl ⟨Nat.zero_le _, Nat.zero_le _⟩ rfl (Nat.le_of_ble_eq_true rfl) dX8_doorOn_12) hP hD hS hA [0] rfl ads1 (fun H locs hP hD hS => ?_)
    replace hP : va_P G vwCl ([(ra, .inl (kk 0, 64, .inl (sX8_lay f i0 4 x_1)))]) H := hP
    replace hD : va_D A ([(ra, .inl (kk 0, 64, .inl (sX8_lay f i0 4 x_1)))]) := hD
    have eS : sX8_doorOn f n i0 o = sX8_doorOn_z_2 f n i0 o x_1 (sX8_lay f i0 4 x_1) := eS
    have hz_2 := (lay_0 (f := f) (i := i0) (w := 4) (v := x_1))
    generalize sX8_lay f i0 4 x_1 = z_2 at hP hD eS hz_2 ⊢
    have hf : z_2 0 = nI n := hz_2.trans hn
    refine lv_iconst (v := 0) hx hb dX8_doorOn_15 (by decide) ?_
    refine lv_istore_n (lv' := [(3, .int 0), (0, .ref ra), (1, .int (nI i0)), (2, .int o)]) hx hb dX8_doorOn_16 rfl hl (by decide) rfl (fun ls hl => ?_)
    refine lv_iconst (v := 0) hx hb dX8_doorOn_17 (by decide) ?_
    refine lv_istore (lv' := [(4, .int 0), (3, .int 0), (0, .ref ra), (1, .int (nI i0)), (2, .int o)]) hx hb dX8_doorOn_18 hl (by decide) rfl (fun ls hl => ?_)
    have L_4 : ∀ (d : Nat) (i : Nat) (t : Int32) (hd : i + d = n) (eS : sX8_doorOn f n i0 o = lp_X8_doorOn_20 f n i0 o x_1 z_2 d i t) (H : Heap) (locs : List Loc) (ls : Array Slot) (hP : va_P G vwCl ([(ra, .inl (kk 0, 64, .inl z_2))]) H) (hD : va_D A ([(ra, .inl (kk 0, 64, .inl z_2))])) (hS : va_S A s.heap H locs) (hl : lv_has ls 5 [(0, .ref ra), (1, .int (nI i0)), (2, .int o), (4, .int (nI i)), (3, .int t)]), GO p l e (rmO 1 23) s m ([.ref ra, .int (nI i0), .int o] : List Value).toArray below meth c A (QI G kk ([(ra, .inl (kk 0, 64, .inl ((sX8_doorOn f n i0 o).2)))]) ((sX8_doorOn f n i0 o).1)) H locs (F0 m 20 ls []) := by
      intro d
      induction d with
      | zero =>
        intro i t hd eS H locs ls hP hD hS hl
        refine lv_iload hx hb dX8_doorOn_20 (lv_at hl 3 rfl) ?_
        refine lv_aload_n hx hb dX8_doorOn_22 rfl (lv_at hl 0 rfl) ?_
        refine lv_iconst (v := 0) hx hb dX8_doorOn_23 (by decide) ?_
        refine r_iald hx hb hK hP 0 rfl 0 rfl (by decide) (by decide) dX8_doorOn_24 ?_
        refine lv_icmp_ge (tgt := 44) hx hb dX8_doorOn_25 (by decide) (fun c_25 => ?_) (fun c_25 => absurd (fle hf (by omega) (by omega)) c_25)
        refine lv_iload_n hx hb dX8_doorOn_44 rfl (lv_at hl 4 rfl) ?_
        exact fin_i hx hb hr hlocks hK (vP_eq (congrArg (fun z : Int32 × (Nat → Int32) => ([(ra, .inl (kk 0, 64, .inl z.2))] : va_W)) eS.symm) hP) (vD_eq (congrArg (fun z : Int32 × (Nat → Int32) => ([(ra, .inl (kk 0, 64, .inl z.2))] : va_W)) eS.symm) hD) hS (congrArg (fun z : Int32 × (Nat → Int32) => z.1) eS) dX8_doorOn_45
      | succ d ih =>
        intro i t hd eS H locs ls hP hD hS hl
        refine lv_iload hx hb dX8_doorOn_20 (lv_at hl 3 rfl) ?_
        refine lv_aload_n hx hb dX8_doorOn_22 rfl (lv_at hl 0 rfl) ?_
        refine lv_iconst (v := 0) hx hb dX8_doorOn_23 (by decide) ?_
        refine r_iald hx hb hK hP 0 rfl 0 rfl (by decide) (by decide) dX8_doorOn_24 ?_
        refine lv_icmp_ge (tgt := 44) hx hb dX8_doorOn_25 (by decide) (fun c_25 => absurd c_25 (fgt hf (by omega) (by omega))) (fun c_25 => ?_)
        refine lv_iload_n hx hb dX8_doorOn_28 rfl (lv_at hl 4 rfl) ?_
        refine lv_aload_n hx hb dX8_doorOn_29 rfl (lv_at hl 0 rfl) ?_
        refine lv_iload hx hb dX8_doorOn_30 (lv_at hl 3 rfl) ?_
        refine lv_iconst (v := 4) hx hb dX8_doorOn_32 (by decide) ?_
        refine k_goI (k_runS (rest := [.int t]) (As := [.ref ra, .int (nI i), .int 4]) hx hb hml hown hts hK hP hD hS hA hE hl.1 (c_X8_of l G kk ra z_2 i 4 (by omega)) sl_X8_44 ⟨Nat.le_of_ble_eq_true rfl, Nat.le_of_ble_eq_true rfl, rfl, rfl⟩ [0] rfl rfl ⟨Nat.zero_le _, Nat.zero_le _⟩ rfl (Nat.le_of_ble_eq_true rfl) dX8_doorOn_33) hP hD hS hA [0] rfl ads1 (fun H locs hP hD hS => ?_)
        replace hP : va_P G vwCl ([(ra, .inl (kk 0, 64, .inl z_2))]) H := hP
        replace hD : va_D A ([(ra, .inl (kk 0, 64, .inl z_2))]) := hD
        refine lv_iadd hx hb dX8_doorOn_36 ?_
        refine lv_istore_n (lv' := [(3, .int (t + (sX8_of z_2 i 4))), (0, .ref ra), (1, .int (nI i0)), (2, .int o), (4, .int (nI i))]) hx hb dX8_doorOn_37 rfl hl (by decide) rfl (fun ls hl => ?_)
        refine lv_iinc (v := (nI (i + 1))) (lv' := [(4, .int (nI (i + 1))), (3, .int (t + (sX8_of z_2 i 4))), (0, .ref ra), (1, .int (nI i0)), (2, .int o)]) hx hb dX8_doorOn_38 hl (k := 4) rfl (nI_add i 1) (by decide) rfl (fun ls hl => ?_)
        refine lv_goto (tgt := 20) hx hb dX8_doorOn_41 (by decide) ?_
        exact ih (i + 1) (t + (sX8_of z_2 i 4)) (by omega) eS _ _ ls hP hD hS (lv_sub hl [2, 3, 4, 0, 1] rfl)
    exact L_4 n 0 0 (Nat.zero_add _) eS _ _ ls hP hD hS (lv_sub hl [2, 3, 4, 0, 1] rfl)
  refine lv_if_eq (tgt := 11) hx hb dX8_doorOn_4 (by decide) (fun c_4 => ?_) (fun c_4 => ?_)
  · refine lv_iconst (v := 0) hx hb dX8_doorOn_11 (by decide) ?_
    exact J_3 0 (if_pos c_4).symm (eS.trans (cg1 (sX8_doorOn_j12 f n i0 o) (if_pos c_4))) _ _ ls hP hD hS (lv_sub hl [0, 1, 2] rfl)
  · refine lv_iconst (v := 1) hx hb dX8_doorOn_7 (by decide) ?_
    refine lv_goto (tgt := 12) hx hb dX8_doorOn_8 (by decide) ?_
    exact J_3 1 (if_neg c_4).symm (eS.trans (cg1 (sX8_doorOn_j12 f n i0 o) (if_neg c_4))) _ _ ls hP hD hS (lv_sub hl [0, 1, 2] rfl)
def sX8_goodsOn_z_1 (f : Nat → Int32) (i : Nat) (v : Int32) (z_1 : (Nat → Int32)) : Int32 × (Nat → Int32) :=
  ((sX8_of f i 3), z_1)
def sX8_goodsOn (f : Nat → Int32) (i : Nat) (v : Int32) : Int32 × (Nat → Int32) :=
  (sX8_goodsOn_z_1 f i v (sX8_lay f i 3 v))
set_option maxRecDepth 100000 in
set_option maxHeartbeats 4000000 in
theorem c_X8_goodsOn (l : Launch) (G : va_G) (kk : Nat → ClassId) (ra : Nat) (f : Nat → Int32) (i : Nat) (v : Int32) (hi : i < 6) : CC l yX8_goodsOn cX8_goodsOn 4 (some .int) (rmO 1 23) [.ref ra, .int (nI i), .int v] G kk ([(ra, .inl (kk 0, 64, .inl f))]) (QI G kk ([(ra, .inl (kk 0, 64, .inl ((sX8_goodsOn f i v).2)))]) ((sX8_goodsOn f i v).1)) := by
  refine cc_start (by decide +kernel) (Nat.le_of_ble_eq_true rfl) ?_
  intro p e s m below meth c A ls hx hb hr hml hown hts hlocks hA hE hK hP hD hS hl
  have hown : s.vm.findClass RX8 = some m.cls := hown
  have hl : lv_has ls 4 [(0, .ref ra), (1, .int (nI i)), (2, .int v)] := hl
  have eS : sX8_goodsOn f i v = sX8_goodsOn f i v := rfl
  refine lv_aload_n hx hb dX8_goodsOn_0 rfl (lv_at hl 0 rfl) ?_
  refine lv_iload_n hx hb dX8_goodsOn_1 rfl (lv_at hl 1 rfl) ?_
  refine lv_iconst (v := 3) hx hb dX8_goodsOn_2 (by decide) ?_
  refine k_goI (k_runS (rest := []) (As := [.ref ra, .int (nI i), .int 3]) hx hb hml hown hts hK hP hD hS hA hE hl.1 (c_X8_of l G kk ra f i 3 (by omega)) sl_X8_44 ⟨Nat.le_of_ble_eq_true rfl, Nat.le_of_ble_eq_true rfl, rfl, rfl⟩ [0] rfl rfl ⟨Nat.zero_le _, Nat.zero_le _⟩ rfl (Nat.le_of_ble_eq_true rfl) dX8_goodsOn_3) hP hD hS hA [0] rfl ads1 (fun H locs hP hD hS => ?_)
  replace hP : va_P G vwCl ([(ra, .inl (kk 0, 64, .inl f))]) H := hP
  replace hD : va_D A ([(ra, .inl (kk 0, 64, .inl f))]) := hD
  refine lv_istore_n (lv' := [(3, .int (sX8_of f i 3)), (0, .ref ra), (1, .int (nI i)), (2, .int v)]) hx hb dX8_goodsOn_6 rfl hl (by decide) rfl (fun ls hl => ?_)
  refine lv_aload_n hx hb dX8_goodsOn_7 rfl (lv_at hl 1 rfl) ?_
  refine lv_iload_n hx hb dX8_goodsOn_8 rfl (lv_at hl 2 rfl) ?_
  refine lv_iconst (v := 3) hx hb dX8_goodsOn_9 (by decide) ?_
  refine lv_iload_n hx hb dX8_goodsOn_10 rfl (lv_at hl 3 rfl) ?_
  refine k_goV (k_runS (rest := []) (As := [.ref ra, .int (nI i), .int 3, .int v]) hx hb hml hown hts hK hP hD hS hA hE hl.1 (c_X8_lay l G kk ra f i 3 v (by omega)) sl_X8_79 ⟨Nat.le_of_ble_eq_true rfl, Nat.le_of_ble_eq_true rfl, rfl, rfl⟩ [0] rfl rfl ⟨Nat.zero_le _, Nat.zero_le _⟩ rfl (Nat.le_of_ble_eq_true rfl) dX8_goodsOn_11) hP hD hS hA [0] rfl ads1 (fun H locs hP hD hS => ?_)
  replace hP : va_P G vwCl ([(ra, .inl (kk 0, 64, .inl (sX8_lay f i 3 v)))]) H := hP
  replace hD : va_D A ([(ra, .inl (kk 0, 64, .inl (sX8_lay f i 3 v)))]) := hD
  have eS : sX8_goodsOn f i v = sX8_goodsOn_z_1 f i v (sX8_lay f i 3 v) := eS
  have hz_1 := (lay_0 (f := f) (i := i) (w := 3) (v := v))
  generalize sX8_lay f i 3 v = z_1 at hP hD eS hz_1 ⊢
  refine lv_iload_n hx hb dX8_goodsOn_14 rfl (lv_at hl 0 rfl) ?_
  exact fin_i hx hb hr hlocks hK (vP_eq (congrArg (fun z : Int32 × (Nat → Int32) => ([(ra, .inl (kk 0, 64, .inl z.2))] : va_W)) eS.symm) hP) (vD_eq (congrArg (fun z : Int32 × (Nat → Int32) => ([(ra, .inl (kk 0, 64, .inl z.2))] : va_W)) eS.symm) hD) hS (congrArg (fun z : Int32 × (Nat → Int32) => z.1) eS) dX8_goodsOn_15
def sX8_isSetting_j26 (w : Int32) (v : Int32) (x_1 : Int64) : Int32 :=
  (if w = 0 then (sX8_in (v.toInt64) x_1 9999) else (if w = 1 then (sX8_in (v.toInt64) x_1 14) else (if w = 2 then (sX8_in (v.toInt64) x_1 99) else (if w = 3 then (sX8_in (v.toInt64) x_1 50) else (if w = 4 then (sX8_in (v.toInt64) x_1 100) else (sX8_in (v.toInt64) x_1 30))))))
def sX8_isSetting (w : Int32) (v : Int32) : Int32 :=
  (if (sX8_in (w.toInt64) 0 5) = 0 then 0 else (sX8_isSetting_j26 w v (if 3 ≤ w then 1 else 0)))
set_option maxRecDepth 100000 in
set_option maxHeartbeats 4000000 in
theorem c_X8_isSetting (l : Launch) (G : va_G) (kk : Nat → ClassId) (w : Int32) (v : Int32)  : CC l yX8_isSetting cX8_isSetting 2 (some .boolean) (rmO 1 25) [.int w, .int v] G kk ([]) (QI G kk ([]) (sX8_isSetting w v)) := by
  refine cc_start (by decide +kernel) (Nat.le_of_ble_eq_true rfl) ?_
  intro p e s m below meth c A ls hx hb hr hml hown hts hlocks hA hE hK hP hD hS hl
  have hown : s.vm.findClass RX8 = some m.cls := hown
  have hl : lv_has ls 2 [(0, .int w), (1, .int v)] := hl
  have eS : sX8_isSetting w v = sX8_isSetting w v := rfl
  refine lv_iload_n hx hb dX8_isSetting_0 rfl (lv_at hl 0 rfl) ?_
  refine lv_i2l (v := (w.toInt64)) hx hb dX8_isSetting_1 (by first | rfl | decide) ?_
  refine lv_lconst (v := 0) hx hb dX8_isSetting_2 rfl ?_
  refine lv_ldc2 (v := 5) hx hb hown (hts _ kl_X8_102) dX8_isSetting_3 ?_
  refine k_goI (k_runS (rest := []) (As := [.long (w.toInt64), .long 0, .long 5]) hx hb hml hown hts hK hP hD hS hA hE hl.1 (c_X8_in l G kk (w.toInt64) 0 5 ) sl_X8_40 ⟨Nat.le_of_ble_eq_true rfl, Nat.le_of_ble_eq_true rfl, rfl, rfl⟩ [] rfl rfl ⟨Nat.zero_le _, Nat.zero_le _⟩ rfl (Nat.le_of_ble_eq_true rfl) dX8_isSetting_6) hP hD hS hA [] rfl ads0 (fun H locs hP hD hS => ?_)
  replace hP : va_P G vwCl ([]) H := hP
  replace hD : va_D A ([]) := hD
  refine lv_if_ne (tgt := 14) hx hb dX8_isSetting_9 (by decide) (fun c_9 => ?_) (fun c_9 => ?_)
  · have eS := eS.trans (if_neg c_9)
    refine lv_iload_n hx hb dX8_isSetting_14 rfl (lv_at hl 1 rfl) ?_
    refine lv_i2l (v := (v.toInt64)) hx hb dX8_isSetting_15 (by first | rfl | decide) ?_
    refine lv_iload_n hx hb dX8_isSetting_16 rfl (lv_at hl 0 rfl) ?_
    refine lv_iconst (v := 3) hx hb dX8_isSetting_17 (by decide) ?_
    have J_2 : ∀ (x_1 : Int64) (ex_1 : x_1 = (if 3 ≤ w then 1 else 0)) (eS : sX8_isSetting w v = sX8_isSetting_j26 w v x_1) (H : Heap) (locs : List Loc) (ls : Array Slot) (hP : va_P G vwCl ([]) H) (hD : va_D A ([])) (hS : va_S A s.heap H locs) (hl : lv_has ls 2 [(0, .int w), (1, .int v)]), GO p l e (rmO 1 25) s m ([.int w, .int v] : List Value).toArray below meth c A (QI G kk ([]) (sX8_isSetting w v)) H locs (F0 m 26 ls [.long x_1, .long (v.toInt64)]) := by
      intro x_1 ex_1 eS H locs ls hP hD hS hl
      refine lv_iload_n hx hb dX8_isSetting_26 rfl (lv_at hl 0 rfl) ?_
      refine lv_if_ne (tgt := 36) hx hb dX8_isSetting_27 (by decide) (fun c_27 => ?_) (fun c_27 => ?_)
      · have eS := eS.trans (if_neg c_27)
        refine lv_iload_n hx hb dX8_isSetting_36 rfl (lv_at hl 0 rfl) ?_
        refine lv_iconst (v := 1) hx hb dX8_isSetting_37 (by decide) ?_
        refine lv_icmp_ne (tgt := 47) hx hb dX8_isSetting_38 (by decide) (fun c_38 => ?_) (fun c_38 => ?_)
        · have eS := eS.trans (if_neg c_38)
          refine lv_iload_n hx hb dX8_isSetting_47 rfl (lv_at hl 0 rfl) ?_
          refine lv_iconst (v := 2) hx hb dX8_isSetting_48 (by decide) ?_
          refine lv_icmp_ne (tgt := 58) hx hb dX8_isSetting_49 (by decide) (fun c_49 => ?_) (fun c_49 => ?_)
          · have eS := eS.trans (if_neg c_49)
            refine lv_iload_n hx hb dX8_isSetting_58 rfl (lv_at hl 0 rfl) ?_
            refine lv_iconst (v := 3) hx hb dX8_isSetting_59 (by decide) ?_
            refine lv_icmp_ne (tgt := 69) hx hb dX8_isSetting_60 (by decide) (fun c_60 => ?_) (fun c_60 => ?_)
            · have eS := eS.trans (if_neg c_60)
              refine lv_iload_n hx hb dX8_isSetting_69 rfl (lv_at hl 0 rfl) ?_
              refine lv_iconst (v := 4) hx hb dX8_isSetting_70 (by decide) ?_
              refine lv_icmp_ne (tgt := 80) hx hb dX8_isSetting_71 (by decide) (fun c_71 => ?_) (fun c_71 => ?_)
              · have eS := eS.trans (if_neg c_71)
                refine lv_ldc2 (v := 30) hx hb hown (hts _ kl_X8_112) dX8_isSetting_80 ?_
                refine k_goI (k_runS (rest := []) (As := [.long (v.toInt64), .long x_1, .long 30]) hx hb hml hown hts hK hP hD hS hA hE hl.1 (c_X8_in l G kk (v.toInt64) x_1 30 ) sl_X8_40 ⟨Nat.le_of_ble_eq_true rfl, Nat.le_of_ble_eq_true rfl, rfl, rfl⟩ [] rfl rfl ⟨Nat.zero_le _, Nat.zero_le _⟩ rfl (Nat.le_of_ble_eq_true rfl) dX8_isSetting_83) hP hD hS hA [] rfl ads0 (fun H locs hP hD hS => ?_)
                replace hP : va_P G vwCl ([]) H := hP
                replace hD : va_D A ([]) := hD
                exact fin_z hx hb hr hlocks hK hP hD hS eS (zb_n (in_zb _ _ _)) dX8_isSetting_86
              · have eS := eS.trans (if_pos c_71)
                refine lv_ldc2 (v := 100) hx hb hown (hts _ kl_X8_110) dX8_isSetting_74 ?_
                refine lv_goto (tgt := 83) hx hb dX8_isSetting_77 (by decide) ?_
                refine k_goI (k_runS (rest := []) (As := [.long (v.toInt64), .long x_1, .long 100]) hx hb hml hown hts hK hP hD hS hA hE hl.1 (c_X8_in l G kk (v.toInt64) x_1 100 ) sl_X8_40 ⟨Nat.le_of_ble_eq_true rfl, Nat.le_of_ble_eq_true rfl, rfl, rfl⟩ [] rfl rfl ⟨Nat.zero_le _, Nat.zero_le _⟩ rfl (Nat.le_of_ble_eq_true rfl) dX8_isSetting_83) hP hD hS hA [] rfl ads0 (fun H locs hP hD hS => ?_)
                replace hP : va_P G vwCl ([]) H := hP
                replace hD : va_D A ([]) := hD
                exact fin_z hx hb hr hlocks hK hP hD hS eS (zb_n (in_zb _ _ _)) dX8_isSetting_86
            · have eS := eS.trans (if_pos c_60)
              refine lv_ldc2 (v := 50) hx hb hown (hts _ kl_X8_96) dX8_isSetting_63 ?_
              refine lv_goto (tgt := 83) hx hb dX8_isSetting_66 (by decide) ?_
              refine k_goI (k_runS (rest := []) (As := [.long (v.toInt64), .long x_1, .long 50]) hx hb hml hown hts hK hP hD hS hA hE hl.1 (c_X8_in l G kk (v.toInt64) x_1 50 ) sl_X8_40 ⟨Nat.le_of_ble_eq_true rfl, Nat.le_of_ble_eq_true rfl, rfl, rfl⟩ [] rfl rfl ⟨Nat.zero_le _, Nat.zero_le _⟩ rfl (Nat.le_of_ble_eq_true rfl) dX8_isSetting_83) hP hD hS hA [] rfl ads0 (fun H locs hP hD hS => ?_)
              replace hP : va_P G vwCl ([]) H := hP
              replace hD : va_D A ([]) := hD
              exact fin_z hx hb hr hlocks hK hP hD hS eS (zb_n (in_zb _ _ _)) dX8_isSetting_86
          · have eS := eS.trans (if_pos c_49)
            refine lv_ldc2 (v := 99) hx hb hown (hts _ kl_X8_108) dX8_isSetting_52 ?_
            refine lv_goto (tgt := 83) hx hb dX8_isSetting_55 (by decide) ?_
            refine k_goI (k_runS (rest := []) (As := [.long (v.toInt64), .long x_1, .long 99]) hx hb hml hown hts hK hP hD hS hA hE hl.1 (c_X8_in l G kk (v.toInt64) x_1 99 ) sl_X8_40 ⟨Nat.le_of_ble_eq_true rfl, Nat.le_of_ble_eq_true rfl, rfl, rfl⟩ [] rfl rfl ⟨Nat.zero_le _, Nat.zero_le _⟩ rfl (Nat.le_of_ble_eq_true rfl) dX8_isSetting_83) hP hD hS hA [] rfl ads0 (fun H locs hP hD hS => ?_)
            replace hP : va_P G vwCl ([]) H := hP
            replace hD : va_D A ([]) := hD
            exact fin_z hx hb hr hlocks hK hP hD hS eS (zb_n (in_zb _ _ _)) dX8_isSetting_86
        · have eS := eS.trans (if_pos c_38)
          refine lv_ldc2 (v := 14) hx hb hown (hts _ kl_X8_106) dX8_isSetting_41 ?_
          refine lv_goto (tgt := 83) hx hb dX8_isSetting_44 (by decide) ?_
          refine k_goI (k_runS (rest := []) (As := [.long (v.toInt64), .long x_1, .long 14]) hx hb hml hown hts hK hP hD hS hA hE hl.1 (c_X8_in l G kk (v.toInt64) x_1 14 ) sl_X8_40 ⟨Nat.le_of_ble_eq_true rfl, Nat.le_of_ble_eq_true rfl, rfl, rfl⟩ [] rfl rfl ⟨Nat.zero_le _, Nat.zero_le _⟩ rfl (Nat.le_of_ble_eq_true rfl) dX8_isSetting_83) hP hD hS hA [] rfl ads0 (fun H locs hP hD hS => ?_)
          replace hP : va_P G vwCl ([]) H := hP
          replace hD : va_D A ([]) := hD
          exact fin_z hx hb hr hlocks hK hP hD hS eS (zb_n (in_zb _ _ _)) dX8_isSetting_86
      · have eS := eS.trans (if_pos c_27)
        refine lv_ldc2 (v := 9999) hx hb hown (hts _ kl_X8_104) dX8_isSetting_30 ?_
        refine lv_goto (tgt := 83) hx hb dX8_isSetting_33 (by decide) ?_
        refine k_goI (k_runS (rest := []) (As := [.long (v.toInt64), .long x_1, .long 9999]) hx hb hml hown hts hK hP hD hS hA hE hl.1 (c_X8_in l G kk (v.toInt64) x_1 9999 ) sl_X8_40 ⟨Nat.le_of_ble_eq_true rfl, Nat.le_of_ble_eq_true rfl, rfl, rfl⟩ [] rfl rfl ⟨Nat.zero_le _, Nat.zero_le _⟩ rfl (Nat.le_of_ble_eq_true rfl) dX8_isSetting_83) hP hD hS hA [] rfl ads0 (fun H locs hP hD hS => ?_)
        replace hP : va_P G vwCl ([]) H := hP
        replace hD : va_D A ([]) := hD
        exact fin_z hx hb hr hlocks hK hP hD hS eS (zb_n (in_zb _ _ _)) dX8_isSetting_86
    refine lv_icmp_ge (tgt := 25) hx hb dX8_isSetting_18 (by decide) (fun c_18 => ?_) (fun c_18 => ?_)
    · refine lv_lconst (v := 1) hx hb dX8_isSetting_25 rfl ?_
      exact J_2 1 (if_pos c_18).symm (eS.trans (cg1 (sX8_isSetting_j26 w v) (if_pos c_18))) _ _ ls hP hD hS (lv_sub hl [0, 1] rfl)
    · refine lv_lconst (v := 0) hx hb dX8_isSetting_21 rfl ?_
      refine lv_goto (tgt := 26) hx hb dX8_isSetting_22 (by decide) ?_
      exact J_2 0 (if_neg c_18).symm (eS.trans (cg1 (sX8_isSetting_j26 w v) (if_neg c_18))) _ _ ls hP hD hS (lv_sub hl [0, 1] rfl)
  · have eS := eS.trans (if_pos c_9)
    refine lv_iconst (v := 0) hx hb dX8_isSetting_12 (by decide) ?_
    exact fin_z hx hb hr hlocks hK hP hD hS eS rfl dX8_isSetting_13
