/-! The law: its words, a call of a helper -/
def SH (own : String) (index : Nat) (y : MethodName) (b : ByteArray) (n : Nat) (hh : List (Nat × Nat × Nat × Nat)) (np : Nat) : Prop := Cond.methodLink own index y ∈ WG ∧ Cond.static y ∈ WG ∧ Cond.initialized y.cls ∈ WG ∧ Cond.codeWith y b n (some .int) hh ∈ WG ∧ (y.cls ≠ "java/lang/invoke/MethodHandle" ∧ y.cls ≠ "java/lang/invoke/VarHandle" ∧ (parseMethodDescriptor y.desc).map (fun d => d.parameters.length) = some np)
def RG (rm R : Room) (n : Nat) : Prop := rm.frames + 1 ≤ R.frames ∧ 8 + (n + 11) + rm.locals ≤ R.locals ∧ rm.cells = 1 ∧ rm.slots = 6
section LAWC
variable {p : Program} {l : Launch} {e : Env} {R : Room} {s : State} {m : MethodId} {args : Array Value} {below : List Frame} {meth : Method} {c : Code} {H : Heap} {locs : List Loc} {cells slots : Nat} {Q : State → Prop}
variable {cc : ByteArray} {pc nL : Nat} {ls : Array Slot} {rest st0 : List Value} {G : va_G} {kk : Nat → ClassId} {A : Nat → Prop} {ws wc w1 : va_W} {own : String} {index n : Nat} {y : MethodName} {b : ByteArray} {rm : Room} {As : List Value} {hh : List (Nat × Nat × Nat × Nat)} {H0 : Heap}
variable {Qk : (Nat → Prop) → Array Value → State → Outcome → State → Prop}
theorem k_runH (hx : p.tables.exec = Jvm.exec) (hb : c.code = cc) (hml : c.maxLocals = nL) (hown : s.vm.findClass own = some m.cls) (hts : ∀ w ∈ WG, w.before args s = true) (hK : va_K G vwCl (TYS kk) s) (hP : va_P G vwCl ws H) (hD : va_D A ws) (hS : va_S A s.heap H locs) (hA : ∀ q : Nat, s.heap.size ≤ q → A q) (hE : ENV A s) (hN : NC s) (hl : ls.size = nL)
    (hc : CH l y b n hh rm As G kk wc Qk) (vl : SH own index y b n hh As.length) (hrm : RG rm R n)
    (isC : List Nat) (hnd : va_nd isC = true) (hC : isC.map (fun i => ws[i]?) = wc.map some) (hcs : cells + 1 ≤ R.cells ∧ slots + 6 ≤ R.slots) (hst : st0 = As.reverse ++ rest) (hWr : (rest.map fun v => v.category).sum ≤ 8) (hdg : decode cc pc = .ok (.invokestatic index, 3)) :
    va_Run p l e R s m args below meth c H locs cells slots 1 6 (F0 m pc ls st0) rest (Qk (va_A wc H.size) As.toArray) (va_A wc H.size) := by
  subst hst
  obtain ⟨v1, v2, v4, v5, v6, v7, v8⟩ := vl
  have hPc := sub_P hP isC hC
  have hDc := hD.sub isC hnd hC
  refine vx_runSW (Ts := WG) (ws := .codeWith y b n (some .int) hh :: WG) (rm := rm) (bytes := b) (maxL := n) (ret := some .int) (hh := hh) (n := As.length) (As := As) (rest := rest) ⟨hx, hb, hml, hown, hts⟩ (hc H.size) ?_ ⟨blind_mN, fun U hU hW => ⟨rfl, ⟨by rw [hU], by rw [hU]; exact hPc, va_K.moved hW.alike hK, hDc.weaken (fun _ _ _ _ => trivial), hE.go hS (va_free hD hS hA isC hC) hU hW⟩, NC.alike hW.alike hN⟩⟩ rfl rfl hl rfl (lv_room hWr) hdg hcs
  refine vx_cwSW (ws' := WG) As.length hts (wg_goodIn ?_) rfl hrm.2.2.1 hrm.2.2.2 ⟨v6, v7, v8⟩ ⟨hrm.1, hrm.2.1⟩
  intro w hw
  simp only [va_wsS, List.cons_append, List.nil_append, List.mem_cons] at hw
  rcases hw with rfl | rfl | rfl | rfl | hw
  · exact v1
  · exact v2
  · exact v4
  · exact v5
  · exact hw
theorem k_goH {r : Int32} {ar : Array Value} (hr : va_Run p l e R s m args below meth c H locs cells slots 1 6 (F0 m pc ls st0) rest (QI G kk w1 r (va_A wc H.size) ar) (va_A wc H.size)) (hP : va_P G vwCl ws H) (hD : va_D A ws) (hS : va_S A H0 H locs) (hA : ∀ q : Nat, H0.size ≤ q → A q) (isC : List Nat) (hC : isC.map (fun i => ws[i]?) = wc.map some) (ha : w1.map (fun q => q.1) = wc.map (fun q => q.1))
    (k : ∀ (H1 : Heap) (locs1 : List Loc), va_P G vwCl (setMany ws isC w1) H1 → va_D A (setMany ws isC w1) → va_S A H0 H1 locs1 → W p l e R s m args below meth c H1 locs1 (cells + 1) (slots + 6) Q (F0 m (pc + 3) ls (.int r :: rest))) : W p l e R s m args below meth c H locs cells slots Q (F0 m pc ls st0) := by
  have hF := va_free hD hS hA isC hC
  refine va_calli hr hS (fun q _ h => hF q h) hF (fun r1 u t H1 locs1 ht hvm hw hB hz hk hS1 => ?_)
  subst hw
  obtain ⟨hP1, -, -⟩ := hB
  rw [ht] at hP1
  obtain ⟨h1, h2⟩ := keep_set hP hD isC hC ha hk hP1
  exact k H1 locs1 h1 h2 hS1
end LAWC
theorem sh_L_83 : SH RL 83 yL_append cL_append 4 [(0, 9, 12, 13), (0, 9, 15, 15)] 3 := ⟨wg_of 473 (by decide +kernel) rfl, wg_of 474 (by decide +kernel) rfl, wg_of 40 (by decide +kernel) rfl, wg_of 475 (by decide +kernel) rfl, by decide +kernel⟩
theorem sh_L_100 : SH RL 100 yL_load cL_load 3 [(0, 8, 11, 15)] 2 := ⟨wg_of 574 (by decide +kernel) rfl, wg_of 575 (by decide +kernel) rfl, wg_of 40 (by decide +kernel) rfl, wg_of 576 (by decide +kernel) rfl, by decide +kernel⟩
theorem sh_L_104 : SH RL 104 yL_about cL_about 4 [(0, 9, 12, 13)] 3 := ⟨wg_of 629 (by decide +kernel) rfl, wg_of 630 (by decide +kernel) rfl, wg_of 40 (by decide +kernel) rfl, wg_of 631 (by decide +kernel) rfl, by decide +kernel⟩
theorem sh_L_107 : SH RL 107 yL_room cL_room 5 [(0, 10, 13, 28), (0, 10, 17, 13)] 4 := ⟨wg_of 645 (by decide +kernel) rfl, wg_of 646 (by decide +kernel) rfl, wg_of 40 (by decide +kernel) rfl, wg_of 647 (by decide +kernel) rfl, by decide +kernel⟩
theorem sh_L_111 : SH RL 111 yL_does cL_does 4 [(0, 9, 12, 28)] 3 := ⟨wg_of 674 (by decide +kernel) rfl, wg_of 675 (by decide +kernel) rfl, wg_of 40 (by decide +kernel) rfl, wg_of 676 (by decide +kernel) rfl, by decide +kernel⟩
theorem sh_L_114 : SH RL 114 yL_setting cL_setting 4 [(0, 9, 12, 13)] 3 := ⟨wg_of 682 (by decide +kernel) rfl, wg_of 683 (by decide +kernel) rfl, wg_of 40 (by decide +kernel) rfl, wg_of 684 (by decide +kernel) rfl, by decide +kernel⟩
theorem sh_L_117 : SH RL 117 yL_add cL_add 6 [(0, 12, 15, 13), (0, 12, 19, 15)] 5 := ⟨wg_of 695 (by decide +kernel) rfl, wg_of 696 (by decide +kernel) rfl, wg_of 40 (by decide +kernel) rfl, wg_of 697 (by decide +kernel) rfl, by decide +kernel⟩
theorem sh_L_121 : SH RL 121 yL_door cL_door 5 [(0, 10, 13, 28)] 4 := ⟨wg_of 715 (by decide +kernel) rfl, wg_of 716 (by decide +kernel) rfl, wg_of 40 (by decide +kernel) rfl, wg_of 717 (by decide +kernel) rfl, by decide +kernel⟩
theorem sh_L_125 : SH RL 125 yL_goods cL_goods 5 [(0, 10, 13, 28), (0, 10, 17, 13)] 4 := ⟨wg_of 726 (by decide +kernel) rfl, wg_of 727 (by decide +kernel) rfl, wg_of 40 (by decide +kernel) rfl, wg_of 728 (by decide +kernel) rfl, by decide +kernel⟩
theorem sh_L_128 : SH RL 128 yL_run cL_run 4 [(0, 9, 12, 13)] 3 := ⟨wg_of 742 (by decide +kernel) rfl, wg_of 743 (by decide +kernel) rfl, wg_of 40 (by decide +kernel) rfl, wg_of 744 (by decide +kernel) rfl, by decide +kernel⟩
theorem sh_L_131 : SH RL 131 yL_set cL_set 5 [(0, 10, 13, 13)] 4 := ⟨wg_of 751 (by decide +kernel) rfl, wg_of 752 (by decide +kernel) rfl, wg_of 40 (by decide +kernel) rfl, wg_of 753 (by decide +kernel) rfl, by decide +kernel⟩
theorem sh_L_134 : SH RL 134 yL_undo cL_undo 3 [(0, 8, 11, 15)] 2 := ⟨wg_of 760 (by decide +kernel) rfl, wg_of 761 (by decide +kernel) rfl, wg_of 40 (by decide +kernel) rfl, wg_of 762 (by decide +kernel) rfl, by decide +kernel⟩
theorem sh_L_141 : SH RL 141 yL_warmIn cL_warmIn 4 [(0, 9, 12, 28)] 3 := ⟨wg_of 776 (by decide +kernel) rfl, wg_of 777 (by decide +kernel) rfl, wg_of 40 (by decide +kernel) rfl, wg_of 778 (by decide +kernel) rfl, by decide +kernel⟩
theorem sh_L_144 : SH RL 144 yL_coming cL_coming 5 [(0, 10, 13, 13)] 4 := ⟨wg_of 785 (by decide +kernel) rfl, wg_of 786 (by decide +kernel) rfl, wg_of 40 (by decide +kernel) rfl, wg_of 787 (by decide +kernel) rfl, by decide +kernel⟩
theorem sh_L_147 : SH RL 147 yL_leastLimit cL_leastLimit 4 [(0, 9, 12, 13)] 3 := ⟨wg_of 798 (by decide +kernel) rfl, wg_of 799 (by decide +kernel) rfl, wg_of 40 (by decide +kernel) rfl, wg_of 800 (by decide +kernel) rfl, by decide +kernel⟩
theorem sh_L_156 : SH RL 156 yL_runScript cL_runScript 6 [(0, 11, 14, 13)] 4 := ⟨wg_of 809 (by decide +kernel) rfl, wg_of 810 (by decide +kernel) rfl, wg_of 40 (by decide +kernel) rfl, wg_of 811 (by decide +kernel) rfl, by decide +kernel⟩
theorem sh_L_160 : SH RL 160 yL_simulate cL_simulate 6 [(0, 11, 14, 13)] 4 := ⟨wg_of 829 (by decide +kernel) rfl, wg_of 830 (by decide +kernel) rfl, wg_of 40 (by decide +kernel) rfl, wg_of 831 (by decide +kernel) rfl, by decide +kernel⟩
theorem sh_L_164 : SH RL 164 yL_save cL_save 4 [(0, 9, 12, 28)] 3 := ⟨wg_of 843 (by decide +kernel) rfl, wg_of 844 (by decide +kernel) rfl, wg_of 40 (by decide +kernel) rfl, wg_of 845 (by decide +kernel) rfl, by decide +kernel⟩
theorem sh_L_167 : SH RL 167 yL_restore cL_restore 4 [(0, 9, 12, 28), (0, 9, 15, 15)] 3 := ⟨wg_of 860 (by decide +kernel) rfl, wg_of 861 (by decide +kernel) rfl, wg_of 40 (by decide +kernel) rfl, wg_of 862 (by decide +kernel) rfl, by decide +kernel⟩
