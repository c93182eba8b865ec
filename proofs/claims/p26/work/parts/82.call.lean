/-! The law's call -/
abbrev rmG (f n cs ss : Nat) : Room := { frames := f, cells := cs, slots := ss, locals := n }
set_option maxRecDepth 100000 in
theorem q_append_no (l : Launch) (hst : l.stackTraces = false) (G : va_G) (kk : Nat → ClassId) {B : Nat} {σ : SG} {h : Nat} {ws : va_W} (hB : B ≤ 90000) (o : OB kk B σ h ws) (x : Int32) (b c : Int32) (hx : x < 0 ∨ 255 < x) : CG l yL_call cL_call 5 (some .int) (rmG 8 125 1 6) [.ref h, .int 0, .int x, .int b, .int c] G kk ws 1 6 (QG G kk ws (fun w1 r => OB kk B σ h w1 ∧ r = (-9999002))) := by
  have hq := a_append_no l hst G kk hB o x hx
  refine cg_start (by decide +kernel) (Nat.le_of_ble_eq_true rfl) ?_
  intro p e s m below meth c0 A ls hx hb hr hml hown hts hlocks hA hE hN hK hP hD hS hl
  have hown : s.vm.findClass RL = some m.cls := hown
  have X : LM p l e (rmG 8 125 1 6) s m ([.ref h, .int 0, .int x, .int b, .int c] : List Value).toArray below meth c0 cL_call 5 RL G kk A := ⟨hx, hb, hml, hown, hts, hK, hA, hE, hN⟩
  have hl : lv_has ls 5 [(0, .ref h), (1, .int 0), (2, .int x), (3, .int b), (4, .int c)] := hl
  refine lv_iload_n hx hb dL_call_0 rfl (lv_at hl 1 rfl) ?_
  refine lv_tableIn (tgt := 76) hx hb dL_call_1 (by decide) (by decide) rfl (by decide) ?_
  refine lv_aload_n hx hb dL_call_76 rfl (lv_at hl 0 rfl) ?_
  refine lv_iload_n hx hb dL_call_77 rfl (lv_at hl 2 rfl) ?_
  refine kH1 (rest := []) (As := [.ref h, .int x]) X hP hD hS hl.1 o.len hq sh_L_82 ⟨Nat.le_of_ble_eq_true rfl, Nat.le_of_ble_eq_true rfl, rfl, rfl⟩ ⟨Nat.le_of_ble_eq_true rfl, Nat.le_of_ble_eq_true rfl⟩ rfl (Nat.le_of_ble_eq_true rfl) dL_call_78 (fun w1 r H locs hΦ ha hP hD hS => ?_)
  exact fin_g X hr hlocks hP hD hS hΦ ha dL_call_81
set_option maxRecDepth 100000 in
theorem q_about (l : Launch) (hst : l.stackTraces = false) (G : va_G) (kk : Nat → ClassId) {B : Nat} {σ : SG} {h : Nat} {ws : va_W} (hB : B ≤ 90000) (o : OB kk B σ h ws) (x : Int32) (b c : Int32)  : CG l yL_call cL_call 5 (some .int) (rmG 8 129 1 6) [.ref h, .int 2, .int x, .int b, .int c] G kk ws 1 6 (QG G kk ws (fun w1 r => OB kk B σ h w1 ∧ r = qAbout σ.1 x)) := by
  have hq := a_about l hst G kk hB o x 
  refine cg_start (by decide +kernel) (Nat.le_of_ble_eq_true rfl) ?_
  intro p e s m below meth c0 A ls hx hb hr hml hown hts hlocks hA hE hN hK hP hD hS hl
  have hown : s.vm.findClass RL = some m.cls := hown
  have X : LM p l e (rmG 8 129 1 6) s m ([.ref h, .int 2, .int x, .int b, .int c] : List Value).toArray below meth c0 cL_call 5 RL G kk A := ⟨hx, hb, hml, hown, hts, hK, hA, hE, hN⟩
  have hl : lv_has ls 5 [(0, .ref h), (1, .int 2), (2, .int x), (3, .int b), (4, .int c)] := hl
  refine lv_iload_n hx hb dL_call_0 rfl (lv_at hl 1 rfl) ?_
  refine lv_tableIn (tgt := 87) hx hb dL_call_1 (by decide) (by decide) rfl (by decide) ?_
  refine lv_aload_n hx hb dL_call_87 rfl (lv_at hl 0 rfl) ?_
  refine lv_iload_n hx hb dL_call_88 rfl (lv_at hl 2 rfl) ?_
  refine kH1 (rest := []) (As := [.ref h, .int x]) X hP hD hS hl.1 o.len hq sh_L_92 ⟨Nat.le_of_ble_eq_true rfl, Nat.le_of_ble_eq_true rfl, rfl, rfl⟩ ⟨Nat.le_of_ble_eq_true rfl, Nat.le_of_ble_eq_true rfl⟩ rfl (Nat.le_of_ble_eq_true rfl) dL_call_89 (fun w1 r H locs hΦ ha hP hD hS => ?_)
  exact fin_g X hr hlocks hP hD hS hΦ ha dL_call_92
set_option maxRecDepth 100000 in
theorem q_room (l : Launch) (hst : l.stackTraces = false) (G : va_G) (kk : Nat → ClassId) {B : Nat} {σ : SG} {h : Nat} {ws : va_W} (hB : B ≤ 90000) (o : OB kk B σ h ws) (x : Int32) (y : Int32) (c : Int32)  : CG l yL_call cL_call 5 (some .int) (rmG 8 128 1 6) [.ref h, .int 3, .int x, .int y, .int c] G kk ws 1 6 (QG G kk ws (fun w1 r => OB kk B σ h w1 ∧ r = qRoom σ.1 x y)) := by
  have hq := a_room l hst G kk hB o x y 
  refine cg_start (by decide +kernel) (Nat.le_of_ble_eq_true rfl) ?_
  intro p e s m below meth c0 A ls hx hb hr hml hown hts hlocks hA hE hN hK hP hD hS hl
  have hown : s.vm.findClass RL = some m.cls := hown
  have X : LM p l e (rmG 8 128 1 6) s m ([.ref h, .int 3, .int x, .int y, .int c] : List Value).toArray below meth c0 cL_call 5 RL G kk A := ⟨hx, hb, hml, hown, hts, hK, hA, hE, hN⟩
  have hl : lv_has ls 5 [(0, .ref h), (1, .int 3), (2, .int x), (3, .int y), (4, .int c)] := hl
  refine lv_iload_n hx hb dL_call_0 rfl (lv_at hl 1 rfl) ?_
  refine lv_tableIn (tgt := 93) hx hb dL_call_1 (by decide) (by decide) rfl (by decide) ?_
  refine lv_aload_n hx hb dL_call_93 rfl (lv_at hl 0 rfl) ?_
  refine lv_iload_n hx hb dL_call_94 rfl (lv_at hl 2 rfl) ?_
  refine lv_iload_n hx hb dL_call_95 rfl (lv_at hl 3 rfl) ?_
  refine kH1 (rest := []) (As := [.ref h, .int x, .int y]) X hP hD hS hl.1 o.len hq sh_L_95 ⟨Nat.le_of_ble_eq_true rfl, Nat.le_of_ble_eq_true rfl, rfl, rfl⟩ ⟨Nat.le_of_ble_eq_true rfl, Nat.le_of_ble_eq_true rfl⟩ rfl (Nat.le_of_ble_eq_true rfl) dL_call_96 (fun w1 r H locs hΦ ha hP hD hS => ?_)
  exact fin_g X hr hlocks hP hD hS hΦ ha dL_call_99
set_option maxRecDepth 100000 in
theorem q_does (l : Launch) (hst : l.stackTraces = false) (G : va_G) (kk : Nat → ClassId) {B : Nat} {σ : SG} {h : Nat} {ws : va_W} (hB : B ≤ 90000) (o : OB kk B σ h ws) (x : Int32) (b c : Int32)  : CG l yL_call cL_call 5 (some .int) (rmG 8 126 1 6) [.ref h, .int 4, .int x, .int b, .int c] G kk ws 1 6 (QG G kk ws (fun w1 r => OB kk B σ h w1 ∧ r = qDoes σ.1 x)) := by
  have hq := a_does l hst G kk hB o x 
  refine cg_start (by decide +kernel) (Nat.le_of_ble_eq_true rfl) ?_
  intro p e s m below meth c0 A ls hx hb hr hml hown hts hlocks hA hE hN hK hP hD hS hl
  have hown : s.vm.findClass RL = some m.cls := hown
  have X : LM p l e (rmG 8 126 1 6) s m ([.ref h, .int 4, .int x, .int b, .int c] : List Value).toArray below meth c0 cL_call 5 RL G kk A := ⟨hx, hb, hml, hown, hts, hK, hA, hE, hN⟩
  have hl : lv_has ls 5 [(0, .ref h), (1, .int 4), (2, .int x), (3, .int b), (4, .int c)] := hl
  refine lv_iload_n hx hb dL_call_0 rfl (lv_at hl 1 rfl) ?_
  refine lv_tableIn (tgt := 100) hx hb dL_call_1 (by decide) (by decide) rfl (by decide) ?_
  refine lv_aload_n hx hb dL_call_100 rfl (lv_at hl 0 rfl) ?_
  refine lv_iload_n hx hb dL_call_101 rfl (lv_at hl 2 rfl) ?_
  refine kH1 (rest := []) (As := [.ref h, .int x]) X hP hD hS hl.1 o.len hq sh_L_99 ⟨Nat.le_of_ble_eq_true rfl, Nat.le_of_ble_eq_true rfl, rfl, rfl⟩ ⟨Nat.le_of_ble_eq_true rfl, Nat.le_of_ble_eq_true rfl⟩ rfl (Nat.le_of_ble_eq_true rfl) dL_call_102 (fun w1 r H locs hΦ ha hP hD hS => ?_)
  exact fin_g X hr hlocks hP hD hS hΦ ha dL_call_105
set_option maxRecDepth 100000 in
theorem q_setting (l : Launch) (hst : l.stackTraces = false) (G : va_G) (kk : Nat → ClassId) {B : Nat} {σ : SG} {h : Nat} {ws : va_W} (hB : B ≤ 90000) (o : OB kk B σ h ws) (x : Int32) (b c : Int32)  : CG l yL_call cL_call 5 (some .int) (rmG 8 125 1 6) [.ref h, .int 5, .int x, .int b, .int c] G kk ws 1 6 (QG G kk ws (fun w1 r => OB kk B σ h w1 ∧ r = qSet σ.1 x)) := by
  have hq := a_setting l hst G kk hB o x 
  refine cg_start (by decide +kernel) (Nat.le_of_ble_eq_true rfl) ?_
  intro p e s m below meth c0 A ls hx hb hr hml hown hts hlocks hA hE hN hK hP hD hS hl
  have hown : s.vm.findClass RL = some m.cls := hown
  have X : LM p l e (rmG 8 125 1 6) s m ([.ref h, .int 5, .int x, .int b, .int c] : List Value).toArray below meth c0 cL_call 5 RL G kk A := ⟨hx, hb, hml, hown, hts, hK, hA, hE, hN⟩
  have hl : lv_has ls 5 [(0, .ref h), (1, .int 5), (2, .int x), (3, .int b), (4, .int c)] := hl
  refine lv_iload_n hx hb dL_call_0 rfl (lv_at hl 1 rfl) ?_
  refine lv_tableIn (tgt := 106) hx hb dL_call_1 (by decide) (by decide) rfl (by decide) ?_
  refine lv_aload_n hx hb dL_call_106 rfl (lv_at hl 0 rfl) ?_
  refine lv_iload_n hx hb dL_call_107 rfl (lv_at hl 2 rfl) ?_
  refine kH1 (rest := []) (As := [.ref h, .int x]) X hP hD hS hl.1 o.len hq sh_L_102 ⟨Nat.le_of_ble_eq_true rfl, Nat.le_of_ble_eq_true rfl, rfl, rfl⟩ ⟨Nat.le_of_ble_eq_true rfl, Nat.le_of_ble_eq_true rfl⟩ rfl (Nat.le_of_ble_eq_true rfl) dL_call_108 (fun w1 r H locs hΦ ha hP hD hS => ?_)
  exact fin_g X hr hlocks hP hD hS hΦ ha dL_call_111
set_option maxRecDepth 100000 in
theorem q_add_no (l : Launch) (hst : l.stackTraces = false) (G : va_G) (kk : Nat → ClassId) {B : Nat} {σ : SG} {h : Nat} {ws : va_W} (hB : B ≤ 90000) (o : OB kk B σ h ws) (x : Int32) (y : Int32) (z : Int32) (hx : sX8_isNew x y z = 0) : CG l yL_call cL_call 5 (some .int) (rmG 8 129 1 6) [.ref h, .int 6, .int x, .int y, .int z] G kk ws 1 6 (QG G kk ws (fun w1 r => OB kk B σ h w1 ∧ r = (-9999002))) := by
  have hq := a_add_no l hst G kk hB o x y z hx
  refine cg_start (by decide +kernel) (Nat.le_of_ble_eq_true rfl) ?_
  intro p e s m below meth c0 A ls hx hb hr hml hown hts hlocks hA hE hN hK hP hD hS hl
  have hown : s.vm.findClass RL = some m.cls := hown
  have X : LM p l e (rmG 8 129 1 6) s m ([.ref h, .int 6, .int x, .int y, .int z] : List Value).toArray below meth c0 cL_call 5 RL G kk A := ⟨hx, hb, hml, hown, hts, hK, hA, hE, hN⟩
  have hl : lv_has ls 5 [(0, .ref h), (1, .int 6), (2, .int x), (3, .int y), (4, .int z)] := hl
  refine lv_iload_n hx hb dL_call_0 rfl (lv_at hl 1 rfl) ?_
  refine lv_tableIn (tgt := 112) hx hb dL_call_1 (by decide) (by decide) rfl (by decide) ?_
  refine lv_aload_n hx hb dL_call_112 rfl (lv_at hl 0 rfl) ?_
  refine lv_iload_n hx hb dL_call_113 rfl (lv_at hl 2 rfl) ?_
  refine lv_iload_n hx hb dL_call_114 rfl (lv_at hl 3 rfl) ?_
  refine lv_iload hx hb dL_call_115 (lv_at hl 4 rfl) ?_
  refine kH1 (rest := []) (As := [.ref h, .int x, .int y, .int z]) X hP hD hS hl.1 o.len hq sh_L_105 ⟨Nat.le_of_ble_eq_true rfl, Nat.le_of_ble_eq_true rfl, rfl, rfl⟩ ⟨Nat.le_of_ble_eq_true rfl, Nat.le_of_ble_eq_true rfl⟩ rfl (Nat.le_of_ble_eq_true rfl) dL_call_117 (fun w1 r H locs hΦ ha hP hD hS => ?_)
  exact fin_g X hr hlocks hP hD hS hΦ ha dL_call_120
set_option maxRecDepth 100000 in
theorem q_add (l : Launch) (hst : l.stackTraces = false) (G : va_G) (kk : Nat → ClassId) {B : Nat} {σ : SG} {h : Nat} {ws : va_W} (hB : B ≤ 90000) (o : OB kk B σ h ws) (x : Int32) (y : Int32) (z : Int32) (hm : mF σ.1 < 6) (hx : 1 ≤ x.toInt ∧ x.toInt ≤ 50) (hy : -300 ≤ y.toInt ∧ y.toInt ≤ 200) (hz : y.toInt + 1 ≤ z.toInt ∧ z.toInt ≤ 200) : CG l yL_call cL_call 5 (some .int) (rmG 8 129 1 6) [.ref h, .int 6, .int x, .int y, .int z] G kk ws 1 6 (QG G kk ws (fun w1 r => OB kk B (sPush σ (ADDF σ.1 x y z)) h w1 ∧ r = nI (mF σ.1))) := by
  have hq := a_add l hst G kk hB o x y z hm hx hy hz
  refine cg_start (by decide +kernel) (Nat.le_of_ble_eq_true rfl) ?_
  intro p e s m below meth c0 A ls hx hb hr hml hown hts hlocks hA hE hN hK hP hD hS hl
  have hown : s.vm.findClass RL = some m.cls := hown
  have X : LM p l e (rmG 8 129 1 6) s m ([.ref h, .int 6, .int x, .int y, .int z] : List Value).toArray below meth c0 cL_call 5 RL G kk A := ⟨hx, hb, hml, hown, hts, hK, hA, hE, hN⟩
  have hl : lv_has ls 5 [(0, .ref h), (1, .int 6), (2, .int x), (3, .int y), (4, .int z)] := hl
  refine lv_iload_n hx hb dL_call_0 rfl (lv_at hl 1 rfl) ?_
  refine lv_tableIn (tgt := 112) hx hb dL_call_1 (by decide) (by decide) rfl (by decide) ?_
  refine lv_aload_n hx hb dL_call_112 rfl (lv_at hl 0 rfl) ?_
  refine lv_iload_n hx hb dL_call_113 rfl (lv_at hl 2 rfl) ?_
  refine lv_iload_n hx hb dL_call_114 rfl (lv_at hl 3 rfl) ?_
  refine lv_iload hx hb dL_call_115 (lv_at hl 4 rfl) ?_
  refine kH1 (rest := []) (As := [.ref h, .int x, .int y, .int z]) X hP hD hS hl.1 o.len hq sh_L_105 ⟨Nat.le_of_ble_eq_true rfl, Nat.le_of_ble_eq_true rfl, rfl, rfl⟩ ⟨Nat.le_of_ble_eq_true rfl, Nat.le_of_ble_eq_true rfl⟩ rfl (Nat.le_of_ble_eq_true rfl) dL_call_117 (fun w1 r H locs hΦ ha hP hD hS => ?_)
  exact fin_g X hr hlocks hP hD hS hΦ ha dL_call_120
set_option maxRecDepth 100000 in
theorem q_goods_no (l : Launch) (hst : l.stackTraces = false) (G : va_G) (kk : Nat → ClassId) {B : Nat} {σ : SG} {h : Nat} {ws : va_W} (hB : B ≤ 90000) (o : OB kk B σ h ws) (x : Int32) (y : Int32) (c : Int32) (hR : sX8_isRoom σ.1 x = 0) : CG l yL_call cL_call 5 (some .int) (rmG 8 129 1 6) [.ref h, .int 7, .int x, .int y, .int c] G kk ws 1 6 (QG G kk ws (fun w1 r => OB kk B σ h w1 ∧ r = (-9999001))) := by
  have hq := a_goods_no l hst G kk hB o x y hR
  refine cg_start (by decide +kernel) (Nat.le_of_ble_eq_true rfl) ?_
  intro p e s m below meth c0 A ls hx hb hr hml hown hts hlocks hA hE hN hK hP hD hS hl
  have hown : s.vm.findClass RL = some m.cls := hown
  have X : LM p l e (rmG 8 129 1 6) s m ([.ref h, .int 7, .int x, .int y, .int c] : List Value).toArray below meth c0 cL_call 5 RL G kk A := ⟨hx, hb, hml, hown, hts, hK, hA, hE, hN⟩
  have hl : lv_has ls 5 [(0, .ref h), (1, .int 7), (2, .int x), (3, .int y), (4, .int c)] := hl
  refine lv_iload_n hx hb dL_call_0 rfl (lv_at hl 1 rfl) ?_
  refine lv_tableIn (tgt := 121) hx hb dL_call_1 (by decide) (by decide) rfl (by decide) ?_
  refine lv_aload_n hx hb dL_call_121 rfl (lv_at hl 0 rfl) ?_
  refine lv_iload_n hx hb dL_call_122 rfl (lv_at hl 2 rfl) ?_
  refine lv_iload_n hx hb dL_call_123 rfl (lv_at hl 3 rfl) ?_
  refine kH1 (rest := []) (As := [.ref h, .int x, .int y]) X hP hD hS hl.1 o.len hq sh_L_109 ⟨Nat.le_of_ble_eq_true rfl, Nat.le_of_ble_eq_true rfl, rfl, rfl⟩ ⟨Nat.le_of_ble_eq_true rfl, Nat.le_of_ble_eq_true rfl⟩ rfl (Nat.le_of_ble_eq_true rfl) dL_call_124 (fun w1 r H locs hΦ ha hP hD hS => ?_)
  exact fin_g X hr hlocks hP hD hS hΦ ha dL_call_127
set_option maxRecDepth 100000 in
theorem q_goods_no2 (l : Launch) (hst : l.stackTraces = false) (G : va_G) (kk : Nat → ClassId) {B : Nat} {σ : SG} {h : Nat} {ws : va_W} (hB : B ≤ 90000) (o : OB kk B σ h ws) (x : Int32) (y : Int32) (c : Int32) (hR : ¬ sX8_isRoom σ.1 x = 0) (hV : sX8_in y.toInt64 (-400) 400 = 0) : CG l yL_call cL_call 5 (some .int) (rmG 8 129 1 6) [.ref h, .int 7, .int x, .int y, .int c] G kk ws 1 6 (QG G kk ws (fun w1 r => OB kk B σ h w1 ∧ r = (-9999002))) := by
  have hq := a_goods_no2 l hst G kk hB o x y hR hV
  refine cg_start (by decide +kernel) (Nat.le_of_ble_eq_true rfl) ?_
  intro p e s m below meth c0 A ls hx hb hr hml hown hts hlocks hA hE hN hK hP hD hS hl
  have hown : s.vm.findClass RL = some m.cls := hown
  have X : LM p l e (rmG 8 129 1 6) s m ([.ref h, .int 7, .int x, .int y, .int c] : List Value).toArray below meth c0 cL_call 5 RL G kk A := ⟨hx, hb, hml, hown, hts, hK, hA, hE, hN⟩
  have hl : lv_has ls 5 [(0, .ref h), (1, .int 7), (2, .int x), (3, .int y), (4, .int c)] := hl
  refine lv_iload_n hx hb dL_call_0 rfl (lv_at hl 1 rfl) ?_
  refine lv_tableIn (tgt := 121) hx hb dL_call_1 (by decide) (by decide) rfl (by decide) ?_
  refine lv_aload_n hx hb dL_call_121 rfl (lv_at hl 0 rfl) ?_
  refine lv_iload_n hx hb dL_call_122 rfl (lv_at hl 2 rfl) ?_
  refine lv_iload_n hx hb dL_call_123 rfl (lv_at hl 3 rfl) ?_
  refine kH1 (rest := []) (As := [.ref h, .int x, .int y]) X hP hD hS hl.1 o.len hq sh_L_109 ⟨Nat.le_of_ble_eq_true rfl, Nat.le_of_ble_eq_true rfl, rfl, rfl⟩ ⟨Nat.le_of_ble_eq_true rfl, Nat.le_of_ble_eq_true rfl⟩ rfl (Nat.le_of_ble_eq_true rfl) dL_call_124 (fun w1 r H locs hΦ ha hP hD hS => ?_)
  exact fin_g X hr hlocks hP hD hS hΦ ha dL_call_127
set_option maxRecDepth 100000 in
theorem q_goods (l : Launch) (hst : l.stackTraces = false) (G : va_G) (kk : Nat → ClassId) {B : Nat} {σ : SG} {h : Nat} {ws : va_W} (hB : B ≤ 90000) (o : OB kk B σ h ws) (x : Int32) (y : Int32) (c : Int32) (hR : ¬ sX8_isRoom σ.1 x = 0) (hb : -400 ≤ y.toInt ∧ y.toInt ≤ 400) : CG l yL_call cL_call 5 (some .int) (rmG 8 129 1 6) [.ref h, .int 7, .int x, .int y, .int c] G kk ws 1 6 (QG G kk ws (fun w1 r => OB kk B (sPush σ (sX8_lay σ.1 x.toNatClampNeg 3 y)) h w1 ∧ r = σ.1 (16 + 8 * x.toNatClampNeg + 3))) := by
  have hq := a_goods l hst G kk hB o x y hR hb
  refine cg_start (by decide +kernel) (Nat.le_of_ble_eq_true rfl) ?_
  intro p e s m below meth c0 A ls hx hb hr hml hown hts hlocks hA hE hN hK hP hD hS hl
  have hown : s.vm.findClass RL = some m.cls := hown
  have X : LM p l e (rmG 8 129 1 6) s m ([.ref h, .int 7, .int x, .int y, .int c] : List Value).toArray below meth c0 cL_call 5 RL G kk A := ⟨hx, hb, hml, hown, hts, hK, hA, hE, hN⟩
  have hl : lv_has ls 5 [(0, .ref h), (1, .int 7), (2, .int x), (3, .int y), (4, .int c)] := hl
  refine lv_iload_n hx hb dL_call_0 rfl (lv_at hl 1 rfl) ?_
  refine lv_tableIn (tgt := 121) hx hb dL_call_1 (by decide) (by decide) rfl (by decide) ?_
  refine lv_aload_n hx hb dL_call_121 rfl (lv_at hl 0 rfl) ?_
  refine lv_iload_n hx hb dL_call_122 rfl (lv_at hl 2 rfl) ?_
  refine lv_iload_n hx hb dL_call_123 rfl (lv_at hl 3 rfl) ?_
  refine kH1 (rest := []) (As := [.ref h, .int x, .int y]) X hP hD hS hl.1 o.len hq sh_L_109 ⟨Nat.le_of_ble_eq_true rfl, Nat.le_of_ble_eq_true rfl, rfl, rfl⟩ ⟨Nat.le_of_ble_eq_true rfl, Nat.le_of_ble_eq_true rfl⟩ rfl (Nat.le_of_ble_eq_true rfl) dL_call_124 (fun w1 r H locs hΦ ha hP hD hS => ?_)
  exact fin_g X hr hlocks hP hD hS hΦ ha dL_call_127
set_option maxRecDepth 100000 in
theorem q_run_no (l : Launch) (hst : l.stackTraces = false) (G : va_G) (kk : Nat → ClassId) {B : Nat} {σ : SG} {h : Nat} {ws : va_W} (hB : B ≤ 90000) (o : OB kk B σ h ws) (x : Int32) (b c : Int32) (hx : sX8_in x.toInt64 1 60 = 0) : CG l yL_call cL_call 5 (some .int) (rmG 8 164 1 6) [.ref h, .int 8, .int x, .int b, .int c] G kk ws 1 6 (QG G kk ws (fun w1 r => OB kk B σ h w1 ∧ r = (-9999002))) := by
  have hq := a_run_no l hst G kk hB o x hx
  refine cg_start (by decide +kernel) (Nat.le_of_ble_eq_true rfl) ?_
  intro p e s m below meth c0 A ls hx hb hr hml hown hts hlocks hA hE hN hK hP hD hS hl
  have hown : s.vm.findClass RL = some m.cls := hown
  have X : LM p l e (rmG 8 164 1 6) s m ([.ref h, .int 8, .int x, .int b, .int c] : List Value).toArray below meth c0 cL_call 5 RL G kk A := ⟨hx, hb, hml, hown, hts, hK, hA, hE, hN⟩
  have hl : lv_has ls 5 [(0, .ref h), (1, .int 8), (2, .int x), (3, .int b), (4, .int c)] := hl
  refine lv_iload_n hx hb dL_call_0 rfl (lv_at hl 1 rfl) ?_
  refine lv_tableIn (tgt := 128) hx hb dL_call_1 (by decide) (by decide) rfl (by decide) ?_
  refine lv_aload_n hx hb dL_call_128 rfl (lv_at hl 0 rfl) ?_
  refine lv_iload_n hx hb dL_call_129 rfl (lv_at hl 2 rfl) ?_
  refine kH1 (rest := []) (As := [.ref h, .int x]) X hP hD hS hl.1 o.len hq sh_L_112 ⟨Nat.le_of_ble_eq_true rfl, Nat.le_of_ble_eq_true rfl, rfl, rfl⟩ ⟨Nat.le_of_ble_eq_true rfl, Nat.le_of_ble_eq_true rfl⟩ rfl (Nat.le_of_ble_eq_true rfl) dL_call_130 (fun w1 r H locs hΦ ha hP hD hS => ?_)
  exact fin_g X hr hlocks hP hD hS hΦ ha dL_call_133
set_option maxRecDepth 100000 in
theorem q_run (l : Launch) (hst : l.stackTraces = false) (G : va_G) (kk : Nat → ClassId) {B : Nat} {σ : SG} {h : Nat} {ws : va_W} (hB : B ≤ 90000) (o : OB kk B σ h ws) (x : Int32) (b c : Int32) (hb : 1 ≤ x.toInt ∧ x.toInt ≤ 60) : CG l yL_call cL_call 5 (some .int) (rmG 8 164 1 6) [.ref h, .int 8, .int x, .int b, .int c] G kk ws 1 6 (QG G kk ws (fun w1 r => OB kk (B + 60) (sPush σ (RUNF σ.1 x.toNatClampNeg)) h w1 ∧ r = RUNF σ.1 x.toNatClampNeg 5 - σ.1 5)) := by
  have hq := a_run l hst G kk hB o x hb
  refine cg_start (by decide +kernel) (Nat.le_of_ble_eq_true rfl) ?_
  intro p e s m below meth c0 A ls hx hb hr hml hown hts hlocks hA hE hN hK hP hD hS hl
  have hown : s.vm.findClass RL = some m.cls := hown
  have X : LM p l e (rmG 8 164 1 6) s m ([.ref h, .int 8, .int x, .int b, .int c] : List Value).toArray below meth c0 cL_call 5 RL G kk A := ⟨hx, hb, hml, hown, hts, hK, hA, hE, hN⟩
  have hl : lv_has ls 5 [(0, .ref h), (1, .int 8), (2, .int x), (3, .int b), (4, .int c)] := hl
  refine lv_iload_n hx hb dL_call_0 rfl (lv_at hl 1 rfl) ?_
  refine lv_tableIn (tgt := 128) hx hb dL_call_1 (by decide) (by decide) rfl (by decide) ?_
  refine lv_aload_n hx hb dL_call_128 rfl (lv_at hl 0 rfl) ?_
  refine lv_iload_n hx hb dL_call_129 rfl (lv_at hl 2 rfl) ?_
  refine kH1 (rest := []) (As := [.ref h, .int x]) X hP hD hS hl.1 o.len hq sh_L_112 ⟨Nat.le_of_ble_eq_true rfl, Nat.le_of_ble_eq_true rfl, rfl, rfl⟩ ⟨Nat.le_of_ble_eq_true rfl, Nat.le_of_ble_eq_true rfl⟩ rfl (Nat.le_of_ble_eq_true rfl) dL_call_130 (fun w1 r H locs hΦ ha hP hD hS => ?_)
  exact fin_g X hr hlocks hP hD hS hΦ ha dL_call_133
set_option maxRecDepth 100000 in
theorem q_set_no (l : Launch) (hst : l.stackTraces = false) (G : va_G) (kk : Nat → ClassId) {B : Nat} {σ : SG} {h : Nat} {ws : va_W} (hB : B ≤ 90000) (o : OB kk B σ h ws) (x : Int32) (y : Int32) (c : Int32) (hx : sX8_isSetting x y = 0) : CG l yL_call cL_call 5 (some .int) (rmG 8 128 1 6) [.ref h, .int 9, .int x, .int y, .int c] G kk ws 1 6 (QG G kk ws (fun w1 r => OB kk B σ h w1 ∧ r = (-9999002))) := by
  have hq := a_set_no l hst G kk hB o x y hx
  refine cg_start (by decide +kernel) (Nat.le_of_ble_eq_true rfl) ?_
  intro p e s m below meth c0 A ls hx hb hr hml hown hts hlocks hA hE hN hK hP hD hS hl
  have hown : s.vm.findClass RL = some m.cls := hown
  have X : LM p l e (rmG 8 128 1 6) s m ([.ref h, .int 9, .int x, .int y, .int c] : List Value).toArray below meth c0 cL_call 5 RL G kk A := ⟨hx, hb, hml, hown, hts, hK, hA, hE, hN⟩
  have hl : lv_has ls 5 [(0, .ref h), (1, .int 9), (2, .int x), (3, .int y), (4, .int c)] := hl
  refine lv_iload_n hx hb dL_call_0 rfl (lv_at hl 1 rfl) ?_
  refine lv_tableIn (tgt := 134) hx hb dL_call_1 (by decide) (by decide) rfl (by decide) ?_
  refine lv_aload_n hx hb dL_call_134 rfl (lv_at hl 0 rfl) ?_
  refine lv_iload_n hx hb dL_call_135 rfl (lv_at hl 2 rfl) ?_
  refine lv_iload_n hx hb dL_call_136 rfl (lv_at hl 3 rfl) ?_
  refine kH1 (rest := []) (As := [.ref h, .int x, .int y]) X hP hD hS hl.1 o.len hq sh_L_115 ⟨Nat.le_of_ble_eq_true rfl, Nat.le_of_ble_eq_true rfl, rfl, rfl⟩ ⟨Nat.le_of_ble_eq_true rfl, Nat.le_of_ble_eq_true rfl⟩ rfl (Nat.le_of_ble_eq_true rfl) dL_call_137 (fun w1 r H locs hΦ ha hP hD hS => ?_)
  exact fin_g X hr hlocks hP hD hS hΦ ha dL_call_140
set_option maxRecDepth 100000 in
theorem q_set (l : Launch) (hst : l.stackTraces = false) (G : va_G) (kk : Nat → ClassId) {B : Nat} {σ : SG} {h : Nat} {ws : va_W} (hB : B ≤ 90000) (o : OB kk B σ h ws) (x : Int32) (y : Int32) (c : Int32) (hx : ¬ sX8_isSetting x y = 0) : CG l yL_call cL_call 5 (some .int) (rmG 8 128 1 6) [.ref h, .int 9, .int x, .int y, .int c] G kk ws 1 6 (QG G kk ws (fun w1 r => OB kk B (sPush σ (upd σ.1 (10 + x.toNatClampNeg) y)) h w1 ∧ r = σ.1 (10 + x.toNatClampNeg))) := by
  have hq := a_set l hst G kk hB o x y hx
  refine cg_start (by decide +kernel) (Nat.le_of_ble_eq_true rfl) ?_
  intro p e s m below meth c0 A ls hx hb hr hml hown hts hlocks hA hE hN hK hP hD hS hl
  have hown : s.vm.findClass RL = some m.cls := hown
  have X : LM p l e (rmG 8 128 1 6) s m ([.ref h, .int 9, .int x, .int y, .int c] : List Value).toArray below meth c0 cL_call 5 RL G kk A := ⟨hx, hb, hml, hown, hts, hK, hA, hE, hN⟩
  have hl : lv_has ls 5 [(0, .ref h), (1, .int 9), (2, .int x), (3, .int y), (4, .int c)] := hl
  refine lv_iload_n hx hb dL_call_0 rfl (lv_at hl 1 rfl) ?_
  refine lv_tableIn (tgt := 134) hx hb dL_call_1 (by decide) (by decide) rfl (by decide) ?_
  refine lv_aload_n hx hb dL_call_134 rfl (lv_at hl 0 rfl) ?_
  refine lv_iload_n hx hb dL_call_135 rfl (lv_at hl 2 rfl) ?_
  refine lv_iload_n hx hb dL_call_136 rfl (lv_at hl 3 rfl) ?_
  refine kH1 (rest := []) (As := [.ref h, .int x, .int y]) X hP hD hS hl.1 o.len hq sh_L_115 ⟨Nat.le_of_ble_eq_true rfl, Nat.le_of_ble_eq_true rfl, rfl, rfl⟩ ⟨Nat.le_of_ble_eq_true rfl, Nat.le_of_ble_eq_true rfl⟩ rfl (Nat.le_of_ble_eq_true rfl) dL_call_137 (fun w1 r H locs hΦ ha hP hD hS => ?_)
  exact fin_g X hr hlocks hP hD hS hΦ ha dL_call_140
set_option maxRecDepth 100000 in
theorem q_undo_no (l : Launch) (hst : l.stackTraces = false) (G : va_G) (kk : Nat → ClassId) {B : Nat} {σ : SG} {h : Nat} {ws : va_W} (hB : B ≤ 90000) (o : OB kk B σ h ws)  (a b c : Int32) (hc : σ.2.1 = 0) : CG l yL_call cL_call 5 (some .int) (rmG 8 123 1 6) [.ref h, .int 10, .int a, .int b, .int c] G kk ws 1 6 (QG G kk ws (fun w1 r => OB kk B σ h w1 ∧ r = (-9999003))) := by
  have hq := a_undo_no l hst G kk hB o  hc
  refine cg_start (by decide +kernel) (Nat.le_of_ble_eq_true rfl) ?_
  intro p e s m below meth c0 A ls hx hb hr hml hown hts hlocks hA hE hN hK hP hD hS hl
  have hown : s.vm.findClass RL = some m.cls := hown
  have X : LM p l e (rmG 8 123 1 6) s m ([.ref h, .int 10, .int a, .int b, .int c] : List Value).toArray below meth c0 cL_call 5 RL G kk A := ⟨hx, hb, hml, hown, hts, hK, hA, hE, hN⟩
  have hl : lv_has ls 5 [(0, .ref h), (1, .int 10), (2, .int a), (3, .int b), (4, .int c)] := hl
  refine lv_iload_n hx hb dL_call_0 rfl (lv_at hl 1 rfl) ?_
  refine lv_tableIn (tgt := 141) hx hb dL_call_1 (by decide) (by decide) rfl (by decide) ?_
  refine lv_aload_n hx hb dL_call_141 rfl (lv_at hl 0 rfl) ?_
  refine kH1 (rest := []) (As := [.ref h]) X hP hD hS hl.1 o.len hq sh_L_118 ⟨Nat.le_of_ble_eq_true rfl, Nat.le_of_ble_eq_true rfl, rfl, rfl⟩ ⟨Nat.le_of_ble_eq_true rfl, Nat.le_of_ble_eq_true rfl⟩ rfl (Nat.le_of_ble_eq_true rfl) dL_call_142 (fun w1 r H locs hΦ ha hP hD hS => ?_)
  exact fin_g X hr hlocks hP hD hS hΦ ha dL_call_145
set_option maxRecDepth 100000 in
theorem q_undo (l : Launch) (hst : l.stackTraces = false) (G : va_G) (kk : Nat → ClassId) {B : Nat} {σ : SG} {h : Nat} {ws : va_W} (hB : B ≤ 90000) (o : OB kk B σ h ws)  (a b c : Int32) (hc : ¬ σ.2.1 = 0) : CG l yL_call cL_call 5 (some .int) (rmG 8 123 1 6) [.ref h, .int 10, .int a, .int b, .int c] G kk ws 1 6 (QG G kk ws (fun w1 r => OB kk B (sUndo σ) h w1 ∧ r = nI (σ.2.1 - 1))) := by
  have hq := a_undo l hst G kk hB o  hc
  refine cg_start (by decide +kernel) (Nat.le_of_ble_eq_true rfl) ?_
  intro p e s m below meth c0 A ls hx hb hr hml hown hts hlocks hA hE hN hK hP hD hS hl
  have hown : s.vm.findClass RL = some m.cls := hown
  have X : LM p l e (rmG 8 123 1 6) s m ([.ref h, .int 10, .int a, .int b, .int c] : List Value).toArray below meth c0 cL_call 5 RL G kk A := ⟨hx, hb, hml, hown, hts, hK, hA, hE, hN⟩
  have hl : lv_has ls 5 [(0, .ref h), (1, .int 10), (2, .int a), (3, .int b), (4, .int c)] := hl
  refine lv_iload_n hx hb dL_call_0 rfl (lv_at hl 1 rfl) ?_
  refine lv_tableIn (tgt := 141) hx hb dL_call_1 (by decide) (by decide) rfl (by decide) ?_
  refine lv_aload_n hx hb dL_call_141 rfl (lv_at hl 0 rfl) ?_
  refine kH1 (rest := []) (As := [.ref h]) X hP hD hS hl.1 o.len hq sh_L_118 ⟨Nat.le_of_ble_eq_true rfl, Nat.le_of_ble_eq_true rfl, rfl, rfl⟩ ⟨Nat.le_of_ble_eq_true rfl, Nat.le_of_ble_eq_true rfl⟩ rfl (Nat.le_of_ble_eq_true rfl) dL_call_142 (fun w1 r H locs hΦ ha hP hD hS => ?_)
  exact fin_g X hr hlocks hP hD hS hΦ ha dL_call_145
set_option maxRecDepth 100000 in
theorem q_warm_no (l : Launch) (hst : l.stackTraces = false) (G : va_G) (kk : Nat → ClassId) {B : Nat} {σ : SG} {h : Nat} {ws : va_W} (hB : B ≤ 90000) (o : OB kk B σ h ws) (x : Int32) (b c : Int32) (hR : sX8_isRoom σ.1 x = 0) : CG l yL_call cL_call 5 (some .int) (rmG 8 143 1 6) [.ref h, .int 11, .int x, .int b, .int c] G kk ws 1 6 (QG G kk ws (fun w1 r => OB kk B σ h w1 ∧ r = (-9999001))) := by
  have hq := a_warm_no l hst G kk hB o x hR
  refine cg_start (by decide +kernel) (Nat.le_of_ble_eq_true rfl) ?_
  intro p e s m below meth c0 A ls hx hb hr hml hown hts hlocks hA hE hN hK hP hD hS hl
  have hown : s.vm.findClass RL = some m.cls := hown
  have X : LM p l e (rmG 8 143 1 6) s m ([.ref h, .int 11, .int x, .int b, .int c] : List Value).toArray below meth c0 cL_call 5 RL G kk A := ⟨hx, hb, hml, hown, hts, hK, hA, hE, hN⟩
  have hl : lv_has ls 5 [(0, .ref h), (1, .int 11), (2, .int x), (3, .int b), (4, .int c)] := hl
  refine lv_iload_n hx hb dL_call_0 rfl (lv_at hl 1 rfl) ?_
  refine lv_tableIn (tgt := 146) hx hb dL_call_1 (by decide) (by decide) rfl (by decide) ?_
  refine lv_aload_n hx hb dL_call_146 rfl (lv_at hl 0 rfl) ?_
  refine lv_iload_n hx hb dL_call_147 rfl (lv_at hl 2 rfl) ?_
  refine kH1 (rest := []) (As := [.ref h, .int x]) X hP hD hS hl.1 o.len hq sh_L_121 ⟨Nat.le_of_ble_eq_true rfl, Nat.le_of_ble_eq_true rfl, rfl, rfl⟩ ⟨Nat.le_of_ble_eq_true rfl, Nat.le_of_ble_eq_true rfl⟩ rfl (Nat.le_of_ble_eq_true rfl) dL_call_148 (fun w1 r H locs hΦ ha hP hD hS => ?_)
  exact fin_g X hr hlocks hP hD hS hΦ ha dL_call_151
set_option maxRecDepth 100000 in
theorem q_warm (l : Launch) (hst : l.stackTraces = false) (G : va_G) (kk : Nat → ClassId) {B : Nat} {σ : SG} {h : Nat} {ws : va_W} (hB : B ≤ 90000) (o : OB kk B σ h ws) (x : Int32) (b c : Int32) (hR : ¬ sX8_isRoom σ.1 x = 0) : CG l yL_call cL_call 5 (some .int) (rmG 8 143 1 6) [.ref h, .int 11, .int x, .int b, .int c] G kk ws 1 6 (QG G kk ws (fun w1 r => OB kk B σ h w1 ∧ WP σ.1 x.toNatClampNeg r)) := by
  have hq := a_warm l hst G kk hB o x hR
  refine cg_start (by decide +kernel) (Nat.le_of_ble_eq_true rfl) ?_
  intro p e s m below meth c0 A ls hx hb hr hml hown hts hlocks hA hE hN hK hP hD hS hl
  have hown : s.vm.findClass RL = some m.cls := hown
  have X : LM p l e (rmG 8 143 1 6) s m ([.ref h, .int 11, .int x, .int b, .int c] : List Value).toArray below meth c0 cL_call 5 RL G kk A := ⟨hx, hb, hml, hown, hts, hK, hA, hE, hN⟩
  have hl : lv_has ls 5 [(0, .ref h), (1, .int 11), (2, .int x), (3, .int b), (4, .int c)] := hl
  refine lv_iload_n hx hb dL_call_0 rfl (lv_at hl 1 rfl) ?_
  refine lv_tableIn (tgt := 146) hx hb dL_call_1 (by decide) (by decide) rfl (by decide) ?_
  refine lv_aload_n hx hb dL_call_146 rfl (lv_at hl 0 rfl) ?_
  refine lv_iload_n hx hb dL_call_147 rfl (lv_at hl 2 rfl) ?_
  refine kH1 (rest := []) (As := [.ref h, .int x]) X hP hD hS hl.1 o.len hq sh_L_121 ⟨Nat.le_of_ble_eq_true rfl, Nat.le_of_ble_eq_true rfl, rfl, rfl⟩ ⟨Nat.le_of_ble_eq_true rfl, Nat.le_of_ble_eq_true rfl⟩ rfl (Nat.le_of_ble_eq_true rfl) dL_call_148 (fun w1 r H locs hΦ ha hP hD hS => ?_)
  exact fin_g X hr hlocks hP hD hS hΦ ha dL_call_151
set_option maxRecDepth 100000 in
theorem q_coming_no (l : Launch) (hst : l.stackTraces = false) (G : va_G) (kk : Nat → ClassId) {B : Nat} {σ : SG} {h : Nat} {ws : va_W} (hB : B ≤ 90000) (o : OB kk B σ h ws) (x : Int32) (y : Int32) (c : Int32) (hx : sX8_in x.toInt64 1 240 = 0 ∨ sX8_in y.toInt64 0 4 = 0) : CG l yL_call cL_call 5 (some .int) (rmG 8 144 1 6) [.ref h, .int 12, .int x, .int y, .int c] G kk ws 1 6 (QG G kk ws (fun w1 r => OB kk B σ h w1 ∧ r = (-9999002))) := by
  have hq := a_coming_no l hst G kk hB o x y hx
  refine cg_start (by decide +kernel) (Nat.le_of_ble_eq_true rfl) ?_
  intro p e s m below meth c0 A ls hx hb hr hml hown hts hlocks hA hE hN hK hP hD hS hl
  have hown : s.vm.findClass RL = some m.cls := hown
  have X : LM p l e (rmG 8 144 1 6) s m ([.ref h, .int 12, .int x, .int y, .int c] : List Value).toArray below meth c0 cL_call 5 RL G kk A := ⟨hx, hb, hml, hown, hts, hK, hA, hE, hN⟩
  have hl : lv_has ls 5 [(0, .ref h), (1, .int 12), (2, .int x), (3, .int y), (4, .int c)] := hl
  refine lv_iload_n hx hb dL_call_0 rfl (lv_at hl 1 rfl) ?_
  refine lv_tableIn (tgt := 152) hx hb dL_call_1 (by decide) (by decide) rfl (by decide) ?_
  refine lv_aload_n hx hb dL_call_152 rfl (lv_at hl 0 rfl) ?_
  refine lv_iload_n hx hb dL_call_153 rfl (lv_at hl 2 rfl) ?_
  refine lv_iload_n hx hb dL_call_154 rfl (lv_at hl 3 rfl) ?_
  refine kH1 (rest := []) (As := [.ref h, .int x, .int y]) X hP hD hS hl.1 o.len hq sh_L_124 ⟨Nat.le_of_ble_eq_true rfl, Nat.le_of_ble_eq_true rfl, rfl, rfl⟩ ⟨Nat.le_of_ble_eq_true rfl, Nat.le_of_ble_eq_true rfl⟩ rfl (Nat.le_of_ble_eq_true rfl) dL_call_155 (fun w1 r H locs hΦ ha hP hD hS => ?_)
  exact fin_g X hr hlocks hP hD hS hΦ ha dL_call_158
set_option maxRecDepth 100000 in
theorem q_coming (l : Launch) (hst : l.stackTraces = false) (G : va_G) (kk : Nat → ClassId) {B : Nat} {σ : SG} {h : Nat} {ws : va_W} (hB : B ≤ 90000) (o : OB kk B σ h ws) (x : Int32) (y : Int32) (c : Int32) (hx1 : x = 1) (hy : y = 0 ∨ y = 3) : CG l yL_call cL_call 5 (some .int) (rmG 8 144 1 6) [.ref h, .int 12, .int x, .int y, .int c] G kk ws 1 6 (QG G kk ws (fun w1 r => OB kk B σ h w1 ∧ r = (if y = 0 then RUNF σ.1 1 5 - σ.1 5 else RUNF σ.1 1 7 - σ.1 7))) := by
  have hq := a_coming l hst G kk hB o x y hx1 hy
  refine cg_start (by decide +kernel) (Nat.le_of_ble_eq_true rfl) ?_
  intro p e s m below meth c0 A ls hx hb hr hml hown hts hlocks hA hE hN hK hP hD hS hl
  have hown : s.vm.findClass RL = some m.cls := hown
  have X : LM p l e (rmG 8 144 1 6) s m ([.ref h, .int 12, .int x, .int y, .int c] : List Value).toArray below meth c0 cL_call 5 RL G kk A := ⟨hx, hb, hml, hown, hts, hK, hA, hE, hN⟩
  have hl : lv_has ls 5 [(0, .ref h), (1, .int 12), (2, .int x), (3, .int y), (4, .int c)] := hl
  refine lv_iload_n hx hb dL_call_0 rfl (lv_at hl 1 rfl) ?_
  refine lv_tableIn (tgt := 152) hx hb dL_call_1 (by decide) (by decide) rfl (by decide) ?_
  refine lv_aload_n hx hb dL_call_152 rfl (lv_at hl 0 rfl) ?_
  refine lv_iload_n hx hb dL_call_153 rfl (lv_at hl 2 rfl) ?_
  refine lv_iload_n hx hb dL_call_154 rfl (lv_at hl 3 rfl) ?_
  refine kH1 (rest := []) (As := [.ref h, .int x, .int y]) X hP hD hS hl.1 o.len hq sh_L_124 ⟨Nat.le_of_ble_eq_true rfl, Nat.le_of_ble_eq_true rfl, rfl, rfl⟩ ⟨Nat.le_of_ble_eq_true rfl, Nat.le_of_ble_eq_true rfl⟩ rfl (Nat.le_of_ble_eq_true rfl) dL_call_155 (fun w1 r H locs hΦ ha hP hD hS => ?_)
  exact fin_g X hr hlocks hP hD hS hΦ ha dL_call_158
set_option maxRecDepth 100000 in
theorem q_least_no (l : Launch) (hst : l.stackTraces = false) (G : va_G) (kk : Nat → ClassId) {B : Nat} {σ : SG} {h : Nat} {ws : va_W} (hB : B ≤ 90000) (o : OB kk B σ h ws) (x : Int32) (b c : Int32) (hx : sX8_in x.toInt64 1 60 = 0) : CG l yL_call cL_call 5 (some .int) (rmG 8 165 1 6) [.ref h, .int 13, .int x, .int b, .int c] G kk ws 1 6 (QG G kk ws (fun w1 r => OB kk B σ h w1 ∧ r = (-9999002))) := by
  have hq := a_least_no l hst G kk hB o x hx
  refine cg_start (by decide +kernel) (Nat.le_of_ble_eq_true rfl) ?_
  intro p e s m below meth c0 A ls hx hb hr hml hown hts hlocks hA hE hN hK hP hD hS hl
  have hown : s.vm.findClass RL = some m.cls := hown
  have X : LM p l e (rmG 8 165 1 6) s m ([.ref h, .int 13, .int x, .int b, .int c] : List Value).toArray below meth c0 cL_call 5 RL G kk A := ⟨hx, hb, hml, hown, hts, hK, hA, hE, hN⟩
  have hl : lv_has ls 5 [(0, .ref h), (1, .int 13), (2, .int x), (3, .int b), (4, .int c)] := hl
  refine lv_iload_n hx hb dL_call_0 rfl (lv_at hl 1 rfl) ?_
  refine lv_tableIn (tgt := 159) hx hb dL_call_1 (by decide) (by decide) rfl (by decide) ?_
  refine lv_aload_n hx hb dL_call_159 rfl (lv_at hl 0 rfl) ?_
  refine lv_iload_n hx hb dL_call_160 rfl (lv_at hl 2 rfl) ?_
  refine kH1 (rest := []) (As := [.ref h, .int x]) X hP hD hS hl.1 o.len hq sh_L_127 ⟨Nat.le_of_ble_eq_true rfl, Nat.le_of_ble_eq_true rfl, rfl, rfl⟩ ⟨Nat.le_of_ble_eq_true rfl, Nat.le_of_ble_eq_true rfl⟩ rfl (Nat.le_of_ble_eq_true rfl) dL_call_161 (fun w1 r H locs hΦ ha hP hD hS => ?_)
  exact fin_g X hr hlocks hP hD hS hΦ ha dL_call_164
set_option maxRecDepth 100000 in
theorem q_least (l : Launch) (hst : l.stackTraces = false) (G : va_G) (kk : Nat → ClassId) {B : Nat} {σ : SG} {h : Nat} {ws : va_W} (hB : B ≤ 90000) (o : OB kk B σ h ws) (x : Int32) (b c : Int32) (hb : 1 ≤ x.toInt ∧ x.toInt ≤ 60) : CG l yL_call cL_call 5 (some .int) (rmG 8 165 1 6) [.ref h, .int 13, .int x, .int b, .int c] G kk ws 1 6 (QG G kk ws (fun w1 r => OB kk B σ h w1 ∧ LEAST σ.1 x.toNatClampNeg r)) := by
  have hq := a_least l hst G kk hB o x hb
  refine cg_start (by decide +kernel) (Nat.le_of_ble_eq_true rfl) ?_
  intro p e s m below meth c0 A ls hx hb hr hml hown hts hlocks hA hE hN hK hP hD hS hl
  have hown : s.vm.findClass RL = some m.cls := hown
  have X : LM p l e (rmG 8 165 1 6) s m ([.ref h, .int 13, .int x, .int b, .int c] : List Value).toArray below meth c0 cL_call 5 RL G kk A := ⟨hx, hb, hml, hown, hts, hK, hA, hE, hN⟩
  have hl : lv_has ls 5 [(0, .ref h), (1, .int 13), (2, .int x), (3, .int b), (4, .int c)] := hl
  refine lv_iload_n hx hb dL_call_0 rfl (lv_at hl 1 rfl) ?_
  refine lv_tableIn (tgt := 159) hx hb dL_call_1 (by decide) (by decide) rfl (by decide) ?_
  refine lv_aload_n hx hb dL_call_159 rfl (lv_at hl 0 rfl) ?_
  refine lv_iload_n hx hb dL_call_160 rfl (lv_at hl 2 rfl) ?_
  refine kH1 (rest := []) (As := [.ref h, .int x]) X hP hD hS hl.1 o.len hq sh_L_127 ⟨Nat.le_of_ble_eq_true rfl, Nat.le_of_ble_eq_true rfl, rfl, rfl⟩ ⟨Nat.le_of_ble_eq_true rfl, Nat.le_of_ble_eq_true rfl⟩ rfl (Nat.le_of_ble_eq_true rfl) dL_call_161 (fun w1 r H locs hΦ ha hP hD hS => ?_)
  exact fin_g X hr hlocks hP hD hS hΦ ha dL_call_164
set_option maxRecDepth 100000 in
theorem q_save_no (l : Launch) (hst : l.stackTraces = false) (G : va_G) (kk : Nat → ClassId) {B : Nat} {σ : SG} {h : Nat} {ws : va_W} (hB : B ≤ 90000) (o : OB kk B σ h ws) (x : Int32) (b c : Int32) (hx : ¬ x = 0) (hx1 : ¬ x = 1) : CG l yL_call cL_call 5 (some .int) (rmG 8 126 1 6) [.ref h, .int 14, .int x, .int b, .int c] G kk ws 1 6 (QG G kk ws (fun w1 r => OB kk B σ h w1 ∧ r = (-9999001))) := by
  have hq := a_save_no l hst G kk hB o x hx hx1
  refine cg_start (by decide +kernel) (Nat.le_of_ble_eq_true rfl) ?_
  intro p e s m below meth c0 A ls hx hb hr hml hown hts hlocks hA hE hN hK hP hD hS hl
  have hown : s.vm.findClass RL = some m.cls := hown
  have X : LM p l e (rmG 8 126 1 6) s m ([.ref h, .int 14, .int x, .int b, .int c] : List Value).toArray below meth c0 cL_call 5 RL G kk A := ⟨hx, hb, hml, hown, hts, hK, hA, hE, hN⟩
  have hl : lv_has ls 5 [(0, .ref h), (1, .int 14), (2, .int x), (3, .int b), (4, .int c)] := hl
  refine lv_iload_n hx hb dL_call_0 rfl (lv_at hl 1 rfl) ?_
  refine lv_tableIn (tgt := 165) hx hb dL_call_1 (by decide) (by decide) rfl (by decide) ?_
  refine lv_aload_n hx hb dL_call_165 rfl (lv_at hl 0 rfl) ?_
  refine lv_iload_n hx hb dL_call_166 rfl (lv_at hl 2 rfl) ?_
  refine kH1 (rest := []) (As := [.ref h, .int x]) X hP hD hS hl.1 o.len hq sh_L_130 ⟨Nat.le_of_ble_eq_true rfl, Nat.le_of_ble_eq_true rfl, rfl, rfl⟩ ⟨Nat.le_of_ble_eq_true rfl, Nat.le_of_ble_eq_true rfl⟩ rfl (Nat.le_of_ble_eq_true rfl) dL_call_167 (fun w1 r H locs hΦ ha hP hD hS => ?_)
  exact fin_g X hr hlocks hP hD hS hΦ ha dL_call_170
set_option maxRecDepth 100000 in
theorem q_save_0 (l : Launch) (hst : l.stackTraces = false) (G : va_G) (kk : Nat → ClassId) {B : Nat} {σ : SG} {h : Nat} {ws : va_W} (hB : B ≤ 90000) (o : OB kk B σ h ws)  (b c : Int32)  : CG l yL_call cL_call 5 (some .int) (rmG 8 126 1 6) [.ref h, .int 14, .int 0, .int b, .int c] G kk ws 1 6 (QG G kk ws (fun w1 r => OB kk B (σ.1, σ.2.1, σ.2.2.1, some σ.1, σ.2.2.2.2) h w1 ∧ r = σ.1 1)) := by
  have hq := a_save_0 l hst G kk hB o  
  refine cg_start (by decide +kernel) (Nat.le_of_ble_eq_true rfl) ?_
  intro p e s m below meth c0 A ls hx hb hr hml hown hts hlocks hA hE hN hK hP hD hS hl
  have hown : s.vm.findClass RL = some m.cls := hown
  have X : LM p l e (rmG 8 126 1 6) s m ([.ref h, .int 14, .int 0, .int b, .int c] : List Value).toArray below meth c0 cL_call 5 RL G kk A := ⟨hx, hb, hml, hown, hts, hK, hA, hE, hN⟩
  have hl : lv_has ls 5 [(0, .ref h), (1, .int 14), (2, .int 0), (3, .int b), (4, .int c)] := hl
  refine lv_iload_n hx hb dL_call_0 rfl (lv_at hl 1 rfl) ?_
  refine lv_tableIn (tgt := 165) hx hb dL_call_1 (by decide) (by decide) rfl (by decide) ?_
  refine lv_aload_n hx hb dL_call_165 rfl (lv_at hl 0 rfl) ?_
  refine lv_iload_n hx hb dL_call_166 rfl (lv_at hl 2 rfl) ?_
  refine kH1 (rest := []) (As := [.ref h, .int 0]) X hP hD hS hl.1 o.len hq sh_L_130 ⟨Nat.le_of_ble_eq_true rfl, Nat.le_of_ble_eq_true rfl, rfl, rfl⟩ ⟨Nat.le_of_ble_eq_true rfl, Nat.le_of_ble_eq_true rfl⟩ rfl (Nat.le_of_ble_eq_true rfl) dL_call_167 (fun w1 r H locs hΦ ha hP hD hS => ?_)
  exact fin_g X hr hlocks hP hD hS hΦ ha dL_call_170
set_option maxRecDepth 100000 in
theorem q_save_1 (l : Launch) (hst : l.stackTraces = false) (G : va_G) (kk : Nat → ClassId) {B : Nat} {σ : SG} {h : Nat} {ws : va_W} (hB : B ≤ 90000) (o : OB kk B σ h ws)  (b c : Int32)  : CG l yL_call cL_call 5 (some .int) (rmG 8 126 1 6) [.ref h, .int 14, .int 1, .int b, .int c] G kk ws 1 6 (QG G kk ws (fun w1 r => OB kk B (σ.1, σ.2.1, σ.2.2.1, σ.2.2.2.1, some σ.1) h w1 ∧ r = σ.1 1)) := by
  have hq := a_save_1 l hst G kk hB o  
  refine cg_start (by decide +kernel) (Nat.le_of_ble_eq_true rfl) ?_
  intro p e s m below meth c0 A ls hx hb hr hml hown hts hlocks hA hE hN hK hP hD hS hl
  have hown : s.vm.findClass RL = some m.cls := hown
  have X : LM p l e (rmG 8 126 1 6) s m ([.ref h, .int 14, .int 1, .int b, .int c] : List Value).toArray below meth c0 cL_call 5 RL G kk A := ⟨hx, hb, hml, hown, hts, hK, hA, hE, hN⟩
  have hl : lv_has ls 5 [(0, .ref h), (1, .int 14), (2, .int 1), (3, .int b), (4, .int c)] := hl
  refine lv_iload_n hx hb dL_call_0 rfl (lv_at hl 1 rfl) ?_
  refine lv_tableIn (tgt := 165) hx hb dL_call_1 (by decide) (by decide) rfl (by decide) ?_
  refine lv_aload_n hx hb dL_call_165 rfl (lv_at hl 0 rfl) ?_
  refine lv_iload_n hx hb dL_call_166 rfl (lv_at hl 2 rfl) ?_
  refine kH1 (rest := []) (As := [.ref h, .int 1]) X hP hD hS hl.1 o.len hq sh_L_130 ⟨Nat.le_of_ble_eq_true rfl, Nat.le_of_ble_eq_true rfl, rfl, rfl⟩ ⟨Nat.le_of_ble_eq_true rfl, Nat.le_of_ble_eq_true rfl⟩ rfl (Nat.le_of_ble_eq_true rfl) dL_call_167 (fun w1 r H locs hΦ ha hP hD hS => ?_)
  exact fin_g X hr hlocks hP hD hS hΦ ha dL_call_170
set_option maxRecDepth 100000 in
theorem q_back_no (l : Launch) (hst : l.stackTraces = false) (G : va_G) (kk : Nat → ClassId) {B : Nat} {σ : SG} {h : Nat} {ws : va_W} (hB : B ≤ 90000) (o : OB kk B σ h ws) (x : Int32) (b c : Int32) (hx : ¬ x = 0) (hx1 : ¬ x = 1) : CG l yL_call cL_call 5 (some .int) (rmG 8 126 1 6) [.ref h, .int 15, .int x, .int b, .int c] G kk ws 1 6 (QG G kk ws (fun w1 r => OB kk B σ h w1 ∧ r = (-9999001))) := by
  have hq := a_back_no l hst G kk hB o x hx hx1
  refine cg_start (by decide +kernel) (Nat.le_of_ble_eq_true rfl) ?_
  intro p e s m below meth c0 A ls hx hb hr hml hown hts hlocks hA hE hN hK hP hD hS hl
  have hown : s.vm.findClass RL = some m.cls := hown
  have X : LM p l e (rmG 8 126 1 6) s m ([.ref h, .int 15, .int x, .int b, .int c] : List Value).toArray below meth c0 cL_call 5 RL G kk A := ⟨hx, hb, hml, hown, hts, hK, hA, hE, hN⟩
  have hl : lv_has ls 5 [(0, .ref h), (1, .int 15), (2, .int x), (3, .int b), (4, .int c)] := hl
  refine lv_iload_n hx hb dL_call_0 rfl (lv_at hl 1 rfl) ?_
  refine lv_tableOut (tgt := 171) hx hb dL_call_1 (by decide) (by decide) ?_
  refine lv_aload_n hx hb dL_call_171 rfl (lv_at hl 0 rfl) ?_
  refine lv_iload_n hx hb dL_call_172 rfl (lv_at hl 2 rfl) ?_
  refine kH1 (rest := []) (As := [.ref h, .int x]) X hP hD hS hl.1 o.len hq sh_L_133 ⟨Nat.le_of_ble_eq_true rfl, Nat.le_of_ble_eq_true rfl, rfl, rfl⟩ ⟨Nat.le_of_ble_eq_true rfl, Nat.le_of_ble_eq_true rfl⟩ rfl (Nat.le_of_ble_eq_true rfl) dL_call_173 (fun w1 r H locs hΦ ha hP hD hS => ?_)
  exact fin_g X hr hlocks hP hD hS hΦ ha dL_call_176
set_option maxRecDepth 100000 in
theorem q_back_n0 (l : Launch) (hst : l.stackTraces = false) (G : va_G) (kk : Nat → ClassId) {B : Nat} {σ : SG} {h : Nat} {ws : va_W} (hB : B ≤ 90000) (o : OB kk B σ h ws)  (b c : Int32) (hk : σ.2.2.2.1 = none) : CG l yL_call cL_call 5 (some .int) (rmG 8 126 1 6) [.ref h, .int 15, .int 0, .int b, .int c] G kk ws 1 6 (QG G kk ws (fun w1 r => OB kk B σ h w1 ∧ r = (-9999003))) := by
  have hq := a_back_n0 l hst G kk hB o  hk
  refine cg_start (by decide +kernel) (Nat.le_of_ble_eq_true rfl) ?_
  intro p e s m below meth c0 A ls hx hb hr hml hown hts hlocks hA hE hN hK hP hD hS hl
  have hown : s.vm.findClass RL = some m.cls := hown
  have X : LM p l e (rmG 8 126 1 6) s m ([.ref h, .int 15, .int 0, .int b, .int c] : List Value).toArray below meth c0 cL_call 5 RL G kk A := ⟨hx, hb, hml, hown, hts, hK, hA, hE, hN⟩
  have hl : lv_has ls 5 [(0, .ref h), (1, .int 15), (2, .int 0), (3, .int b), (4, .int c)] := hl
  refine lv_iload_n hx hb dL_call_0 rfl (lv_at hl 1 rfl) ?_
  refine lv_tableOut (tgt := 171) hx hb dL_call_1 (by decide) (by decide) ?_
  refine lv_aload_n hx hb dL_call_171 rfl (lv_at hl 0 rfl) ?_
  refine lv_iload_n hx hb dL_call_172 rfl (lv_at hl 2 rfl) ?_
  refine kH1 (rest := []) (As := [.ref h, .int 0]) X hP hD hS hl.1 o.len hq sh_L_133 ⟨Nat.le_of_ble_eq_true rfl, Nat.le_of_ble_eq_true rfl, rfl, rfl⟩ ⟨Nat.le_of_ble_eq_true rfl, Nat.le_of_ble_eq_true rfl⟩ rfl (Nat.le_of_ble_eq_true rfl) dL_call_173 (fun w1 r H locs hΦ ha hP hD hS => ?_)
  exact fin_g X hr hlocks hP hD hS hΦ ha dL_call_176
set_option maxRecDepth 100000 in
theorem q_back_0 (l : Launch) (hst : l.stackTraces = false) (G : va_G) (kk : Nat → ClassId) {B : Nat} {σ : SG} {h : Nat} {ws : va_W} (hB : B ≤ 90000) (o : OB kk B σ h ws)  (b c : Int32) {fs : RW} (hk : σ.2.2.2.1 = some fs) : CG l yL_call cL_call 5 (some .int) (rmG 8 126 1 6) [.ref h, .int 15, .int 0, .int b, .int c] G kk ws 1 6 (QG G kk ws (fun w1 r => OB kk B (fs, 0, σ.2.2.1, σ.2.2.2.1, σ.2.2.2.2) h w1 ∧ r = fs 1)) := by
  have hq := a_back_0 l hst G kk hB o  hk
  refine cg_start (by decide +kernel) (Nat.le_of_ble_eq_true rfl) ?_
  intro p e s m below meth c0 A ls hx hb hr hml hown hts hlocks hA hE hN hK hP hD hS hl
  have hown : s.vm.findClass RL = some m.cls := hown
  have X : LM p l e (rmG 8 126 1 6) s m ([.ref h, .int 15, .int 0, .int b, .int c] : List Value).toArray below meth c0 cL_call 5 RL G kk A := ⟨hx, hb, hml, hown, hts, hK, hA, hE, hN⟩
  have hl : lv_has ls 5 [(0, .ref h), (1, .int 15), (2, .int 0), (3, .int b), (4, .int c)] := hl
  refine lv_iload_n hx hb dL_call_0 rfl (lv_at hl 1 rfl) ?_
  refine lv_tableOut (tgt := 171) hx hb dL_call_1 (by decide) (by decide) ?_
  refine lv_aload_n hx hb dL_call_171 rfl (lv_at hl 0 rfl) ?_
  refine lv_iload_n hx hb dL_call_172 rfl (lv_at hl 2 rfl) ?_
  refine kH1 (rest := []) (As := [.ref h, .int 0]) X hP hD hS hl.1 o.len hq sh_L_133 ⟨Nat.le_of_ble_eq_true rfl, Nat.le_of_ble_eq_true rfl, rfl, rfl⟩ ⟨Nat.le_of_ble_eq_true rfl, Nat.le_of_ble_eq_true rfl⟩ rfl (Nat.le_of_ble_eq_true rfl) dL_call_173 (fun w1 r H locs hΦ ha hP hD hS => ?_)
  exact fin_g X hr hlocks hP hD hS hΦ ha dL_call_176
set_option maxRecDepth 100000 in
theorem q_back_n1 (l : Launch) (hst : l.stackTraces = false) (G : va_G) (kk : Nat → ClassId) {B : Nat} {σ : SG} {h : Nat} {ws : va_W} (hB : B ≤ 90000) (o : OB kk B σ h ws)  (b c : Int32) (hk : σ.2.2.2.2 = none) : CG l yL_call cL_call 5 (some .int) (rmG 8 126 1 6) [.ref h, .int 15, .int 1, .int b, .int c] G kk ws 1 6 (QG G kk ws (fun w1 r => OB kk B σ h w1 ∧ r = (-9999003))) := by
  have hq := a_back_n1 l hst G kk hB o  hk
  refine cg_start (by decide +kernel) (Nat.le_of_ble_eq_true rfl) ?_
  intro p e s m below meth c0 A ls hx hb hr hml hown hts hlocks hA hE hN hK hP hD hS hl
  have hown : s.vm.findClass RL = some m.cls := hown
  have X : LM p l e (rmG 8 126 1 6) s m ([.ref h, .int 15, .int 1, .int b, .int c] : List Value).toArray below meth c0 cL_call 5 RL G kk A := ⟨hx, hb, hml, hown, hts, hK, hA, hE, hN⟩
  have hl : lv_has ls 5 [(0, .ref h), (1, .int 15), (2, .int 1), (3, .int b), (4, .int c)] := hl
  refine lv_iload_n hx hb dL_call_0 rfl (lv_at hl 1 rfl) ?_
  refine lv_tableOut (tgt := 171) hx hb dL_call_1 (by decide) (by decide) ?_
  refine lv_aload_n hx hb dL_call_171 rfl (lv_at hl 0 rfl) ?_
  refine lv_iload_n hx hb dL_call_172 rfl (lv_at hl 2 rfl) ?_
  refine kH1 (rest := []) (As := [.ref h, .int 1]) X hP hD hS hl.1 o.len hq sh_L_133 ⟨Nat.le_of_ble_eq_true rfl, Nat.le_of_ble_eq_true rfl, rfl, rfl⟩ ⟨Nat.le_of_ble_eq_true rfl, Nat.le_of_ble_eq_true rfl⟩ rfl (Nat.le_of_ble_eq_true rfl) dL_call_173 (fun w1 r H locs hΦ ha hP hD hS => ?_)
  exact fin_g X hr hlocks hP hD hS hΦ ha dL_call_176
set_option maxRecDepth 100000 in
theorem q_back_1 (l : Launch) (hst : l.stackTraces = false) (G : va_G) (kk : Nat → ClassId) {B : Nat} {σ : SG} {h : Nat} {ws : va_W} (hB : B ≤ 90000) (o : OB kk B σ h ws)  (b c : Int32) {fs : RW} (hk : σ.2.2.2.2 = some fs) : CG l yL_call cL_call 5 (some .int) (rmG 8 126 1 6) [.ref h, .int 15, .int 1, .int b, .int c] G kk ws 1 6 (QG G kk ws (fun w1 r => OB kk B (fs, 0, σ.2.2.1, σ.2.2.2.1, σ.2.2.2.2) h w1 ∧ r = fs 1)) := by
  have hq := a_back_1 l hst G kk hB o  hk
  refine cg_start (by decide +kernel) (Nat.le_of_ble_eq_true rfl) ?_
  intro p e s m below meth c0 A ls hx hb hr hml hown hts hlocks hA hE hN hK hP hD hS hl
  have hown : s.vm.findClass RL = some m.cls := hown
  have X : LM p l e (rmG 8 126 1 6) s m ([.ref h, .int 15, .int 1, .int b, .int c] : List Value).toArray below meth c0 cL_call 5 RL G kk A := ⟨hx, hb, hml, hown, hts, hK, hA, hE, hN⟩
  have hl : lv_has ls 5 [(0, .ref h), (1, .int 15), (2, .int 1), (3, .int b), (4, .int c)] := hl
  refine lv_iload_n hx hb dL_call_0 rfl (lv_at hl 1 rfl) ?_
  refine lv_tableOut (tgt := 171) hx hb dL_call_1 (by decide) (by decide) ?_
  refine lv_aload_n hx hb dL_call_171 rfl (lv_at hl 0 rfl) ?_
  refine lv_iload_n hx hb dL_call_172 rfl (lv_at hl 2 rfl) ?_
  refine kH1 (rest := []) (As := [.ref h, .int 1]) X hP hD hS hl.1 o.len hq sh_L_133 ⟨Nat.le_of_ble_eq_true rfl, Nat.le_of_ble_eq_true rfl, rfl, rfl⟩ ⟨Nat.le_of_ble_eq_true rfl, Nat.le_of_ble_eq_true rfl⟩ rfl (Nat.le_of_ble_eq_true rfl) dL_call_173 (fun w1 r H locs hΦ ha hP hD hS => ?_)
  exact fin_g X hr hlocks hP hD hS hΦ ha dL_call_176
