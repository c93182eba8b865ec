set_option maxRecDepth 100000 in
theorem w0_len {kk : Nat → ClassId} {h : Nat} {ad : Nat → Nat → Nat} {tx sa ra : Nat} {ma : Nat → Nat → Nat} {b6 b7 : Nat → Nat} : ([(h, .inr (7, mrG ad)), ((ad 1) 0, .inr (1, rdF tx gz)), (tx, .inr (6, txF sa gz)), (sa, .inl (kk 1, 120, .inl gz))] ++ (stW kk (ad 2) gz uz rz ++ (stW kk (ad 3) gz uz rz ++ (stW kk (ad 4) gz uz rz ++ ([((ad 5) 0, .inr (0, mmF ra gz)), (ra, .inl (kk 4, 14, .inr (.inr (.inr (.inr (rowF ma (fun j => j)))))))] ++ (stsF kk ma (fun _ => gz) (fun _ => uz) (fun _ => rz) 0 14 ++ ([((ad 6) 0, .inr (4, slF (b6 0) gz))] ++ (stW kk b6 gz uz rz ++ ([((ad 7) 0, .inr (4, slF (b7 0) gz))] ++ (stW kk b7 gz uz rz))))))))) : va_W).length = 179 := by
  simp only [List.length_append, st_len, sts_len, List.length_cons, List.length_nil]
set_option maxRecDepth 100000 in
theorem w1_len {kk : Nat → ClassId} {h : Nat} {ad : Nat → Nat → Nat} {tx sa ra : Nat} {ma : Nat → Nat → Nat} {b6 b7 : Nat → Nat} {mo : Nat} {b : Nat → Nat} : ((([(h, .inr (7, mrG ad)), ((ad 1) 0, .inr (1, rdF tx gz)), (tx, .inr (6, txF sa gz)), (sa, .inl (kk 1, 120, .inl gz))] ++ (stW kk (ad 2) gz uz rz ++ (stW kk (ad 3) gz uz rz ++ (stW kk (ad 4) gz uz rz ++ ([((ad 5) 0, .inr (0, mmF ra gz)), (ra, .inl (kk 4, 14, .inr (.inr (.inr (.inr (rowF ma (fun j => j)))))))] ++ (stsF kk ma (fun _ => gz) (fun _ => uz) (fun _ => rz) 0 14 ++ ([((ad 6) 0, .inr (4, slF (b6 0) gz))] ++ (stW kk b6 gz uz rz ++ ([((ad 7) 0, .inr (4, slF (b7 0) gz))] ++ (stW kk b7 gz uz rz)))))))))) ++ [(mo, .inr (8, moF b gz)), (b 1, .inl (kk 0, 120, .inl gz)), (b 2, .inl (kk 0, 64, .inl (sX8_clear gz))), (b 3, .inl (kk 0, 64, .inl gz)), (b 4, .inl (kk 0, 896, .inl gz)), (b 5, .inl (kk 0, 128, .inl gz)), (b 6, .inl (kk 2, 2, .inl gz)), (b 7, .inl (kk 0, 6, .inl gz))] : va_W)).length = 187 := by
  rw [List.length_append, w0_len]
  rfl
set_option maxRecDepth 100000 in
theorem w_eq {kk : Nat → ClassId} {h : Nat} {ad : Nat → Nat → Nat} {tx sa ra : Nat} {ma : Nat → Nat → Nat} {b6 b7 : Nat → Nat} {mo : Nat} {b : Nat → Nat} {o : Nat} : ((([(h, .inr (7, mrG ad)), ((ad 1) 0, .inr (1, rdF tx gz)), (tx, .inr (6, txF sa gz)), (sa, .inl (kk 1, 120, .inl gz))] ++ (stW kk (ad 2) gz uz rz ++ (stW kk (ad 3) gz uz rz ++ (stW kk (ad 4) gz uz rz ++ ([((ad 5) 0, .inr (0, mmF ra gz)), (ra, .inl (kk 4, 14, .inr (.inr (.inr (.inr (rowF ma (fun j => j)))))))] ++ (stsF kk ma (fun _ => gz) (fun _ => uz) (fun _ => rz) 0 14 ++ ([((ad 6) 0, .inr (4, slF (b6 0) gz))] ++ (stW kk b6 gz uz rz ++ ([((ad 7) 0, .inr (4, slF (b7 0) gz))] ++ (stW kk b7 gz uz rz)))))))))) ++ [(mo, .inr (8, moF b gz)), (b 1, .inl (kk 0, 120, .inl gz)), (b 2, .inl (kk 0, 64, .inl (sX8_clear gz))), (b 3, .inl (kk 0, 64, .inl gz)), (b 4, .inl (kk 0, 896, .inl gz)), (b 5, .inl (kk 0, 128, .inl gz)), (b 6, .inl (kk 2, 2, .inl gz)), (b 7, .inl (kk 0, 6, .inl gz))]) ++ [(o, .inl (kk 5, 1, .inr (.inl (fun _ => 0))))] : va_W) = LWD kk h ad tx sa ra ma b6 b7 mo b o gz gz gz gz uz rz gz uz rz gz (fun j => j) (fun _ => gz) (fun _ => uz) (fun _ => rz) gz gz uz rz gz gz uz rz gz gz (sX8_clear gz) gz gz gz gz gz (fun _ => 0) := by
  unfold LWD
  simp only [List.append_assoc]
theorem rz_0 : N0 rz := fun i hi => rfl
theorem inv_0 : INV 7200 gz gz gz uz rz rz gz (fun j => j) (fun _ => gz) (fun _ => uz) (fun _ => rz) gz gz uz rz gz gz uz rz gz gz (sX8_clear gz) gz gz gz := by
  refine ⟨⟨0, rfl, rfl, by omega, fun j hj => absurd hj (Nat.not_lt_zero _)⟩, ⟨0, rfl, rfl, by omega, fun j hj => hj, fun i j _ _ e => e, fun p _ i hi => ⟨rfl, Or.inl rfl⟩, fun p hp => absurd hp (Nat.not_lt_zero _)⟩, ⟨rfl, Or.inl rfl, rz_0, fun i hi => Or.inl rfl, fun q => absurd q (by decide)⟩, ⟨rfl, Or.inl rfl, rz_0, fun i hi => Or.inl rfl, fun q => absurd q (by decide)⟩, ⟨0, (sm_clear gz).1, (sm_clear gz).2.mono (by omega)⟩, rz_0⟩
/-! THE CLAIM OUT OF ONE WALK OF THE LAW'S BODY. Your part is whole_start (and what it stands on); all else here is the same for every law, but numbers. -/
def R_law : String := "MeterRoomsLaw"
def lw_P (b : Addr) (xs : List Int32) (args : Array Value) (s : State) : Prop := args = #[.ref b] ∧ s.IntsAt b xs ∧ xs.length ≤ 2048 ∧ (Jvm.Cond.and given_1 narrow_1).before args s = true
def lw_Q (_ : Array Value) (s : State) (o : Outcome) (t : State) : Prop := o = .returned (some (.int 1)) ∧ Framed s o t [] 601024 7293034
def lw_Z (below : List Frame) (a : Array Value) (s : State) : State → Prop := fun t => ∃ o, t.status = .running ∧ Ended t below o ∧ lw_Q a s o t
/-- the law's own end, with 1 on the stack, nothing written that was there before, its room as the claim has it -/
theorem lw_ret {p : Program} {l : Launch} {e : Env} {s : State} {m : MethodId} {below : List Frame} {meth : Method} {c : Code} {b : Nat} (hx : p.tables.exec = Jvm.exec) (hb : c.code = code) (hr : meth.sig.returnType = ret) (hlocks : meth.locks = false) {pc : Nat} {H : Heap} {ls : Array Slot} (hdg : decode code pc = .ok (.ireturn, 1)) : W p l e room_1 s m #[Value.ref b] below meth c H [] 601024 7293034 (lw_Z below #[Value.ref b] s) (F0 m pc ls [.int 1]) := by
  intro T hT X
  obtain ⟨fs, hret, hrun, hended, hW, hframe⟩ := X.leave (v := some (.int 1)) (hlocks := hlocks) (fun h => by rw [hr] at h; cases h)
  have hmeth' : T.vm.method? m = some meth := X.method'
  refine ⟨T.setFrames fs, ?_, .returned (some (.int 1)), hrun, hended, rfl, ⟨_, rfl⟩, hW, hframe⟩
  jvm_step X.here [X.here.top, hx, hb, hdg, hmeth', hr, ret, narrow_b1]
  (try refine ⟨rfl, ?_⟩); (try refine ⟨rfl, ?_⟩)
  first | (intro acts; rw [hret _ acts rfl rfl rfl]) | rw [hret _ _ rfl rfl rfl]
  exact Steps.refl _
/-- what holds at the law's entry: the machine, the code, the tables' words (any of lw_tbl by 'hts w (by decide +kernel)'), the script of L ints xs at the cell b, what the Statement gives of the start (any of its parts by flat_of_before) -/
def lw_At (p : Program) (s : State) (m : MethodId) (meth : Method) (c : Code) (b L : Nat) (xs : Nat → Int32) : Prop :=
  p.tables.exec = Jvm.exec ∧ c.code = code ∧ meth.sig.returnType = ret ∧ c.maxLocals = 7 ∧ s.vm.findClass R_law = some m.cls ∧ (∀ w ∈ lw_tbl, w.before #[Value.ref b] s = true) ∧ va_X b L xs s s.heap ∧ b < s.heap.size ∧ meth.locks = false ∧ (Jvm.Cond.and given_1 narrow_1).before #[Value.ref b] s = true
set_option maxRecDepth 100000 in
set_option maxHeartbeats 4000000 in
theorem whole_start {p : Program} {e : Env} {s : State} {m : MethodId} {below : List Frame} {meth : Method} {c : Code} (l : Launch) (hflags : l.flags = flags0) {b L : Nat} {xs : Nat → Int32} (hL : L ≤ 2048) (C0 : lw_At p s m meth c b L xs) : W p l e room_1 s m #[Value.ref b] below meth c s.heap [] 0 0 (lw_Z below #[Value.ref b] s) (entryFrame m ([Value.ref b] : List Value).toArray 7) := by
  obtain ⟨hx, hb, hr, hml, hown, hts, hX, hbl, hlocks, hgv⟩ := id C0
  have hst : l.stackTraces = false := by
    unfold Launch.stackTraces
    rw [hflags]
    decide +kernel
  have hs := flat_of_before _ hgv
  obtain ⟨A, eA⟩ : ∃ A : Nat → Prop, A = (fun q : Nat => s.heap.size ≤ q) := ⟨_, rfl⟩
  have hA : ∀ q : Nat, s.heap.size ≤ q → A q := fun q h => by rw [eA]; exact h
  have hAn : ∀ a : Nat, a < s.heap.size → ¬ A a := fun a h q => by rw [eA] at q; exact absurd q (Nat.not_le.mpr h)
  have htsG : ∀ w ∈ WG, w.before #[Value.ref b] s = true := fun w hw => hts w (List.mem_filter.mp hw).1
  have hE : ENV A s := en_all hts hs hAn
  have hN : NC s := en_nc hts hs
  obtain ⟨G, hG⟩ := cls_all htsG
  obtain ⟨kk, hkk⟩ := tys_all htsG hE.2.2.2.1 hE.2.2.2.2
  have hK : va_K G vwCl (TYS kk) s := ⟨hG, hkk⟩
  have hown : s.vm.findClass RL = some m.cls := hown
  have hb : c.code = cL_law := hb
  have X : LX p l e s m below meth c b L xs G kk A (lw_Z below #[Value.ref b] s) := ⟨hst, hx, hb, hr, hml, hown, htsG, hX, hbl, hlocks, hA, hAn b hbl, hE, hN, hK⟩
  have hS : va_S A s.heap s.heap [] := va_S.rf
  have hP : va_P G vwCl [] s.heap := fun k q h => by simp at h
  have hD : va_D A [] := ⟨fun i j p q h => by simp at h, fun k q h => by simp at h⟩
  have hl := lv_entry ([.ref b]) (n := 7) (Nat.le_of_ble_eq_true rfl)
  rw [lg_entry_eq]
  generalize (lg_sl ([.ref b]) ++ List.replicate (7 - (lg_sl ([.ref b])).length) Slot.unset).toArray = ls at hl ⊢
  have hl : lv_has ls 7 [(0, .ref b)] := hl
  refine r_new (ci := 7) (fs := [.null, .null, .null, .null, .null, .null, .null]) hx hb htsG in_X7 tyX7_ok hown nl_L_8 hK hP hD hS hA rfl (fun j hj => by rcases (show j = 0 ∨ j = 1 ∨ j = 2 ∨ j = 3 ∨ j = 4 ∨ j = 5 ∨ j = 6 by omega) with rfl | rfl | rfl | rfl | rfl | rfl | rfl <;> rfl) (Nat.le_of_ble_eq_true rfl) (Nat.le_of_ble_eq_true rfl) dL_law_0 (fun h H hP hD hS => ?_)
  refine lv_dup hx hb dL_law_3 rfl ?_
  refine k_ctor (rest := [.ref h]) (As := []) hx hb hml hown htsG hK hP hD hS hA hE hl.1 (c_X7_init l G kk h) il_L_79 ⟨Nat.le_of_ble_eq_true rfl, Nat.le_of_ble_eq_true rfl, rfl, rfl⟩ 0 rfl ⟨Nat.le_of_ble_eq_true rfl, Nat.le_of_ble_eq_true rfl⟩ rfl (Nat.le_of_ble_eq_true rfl) dL_law_4 (fun H locs t ht hB hj hS => ?_)
  obtain ⟨ad, tx, sa, ra, ma, b6, b7, hP1, hK1, hD1⟩ := hB
  rw [ht] at hP1
  obtain ⟨hP, hD⟩ := hj _ hP1 hD1
  replace hP := vP_eq2 hP (List.nil_append _)
  replace hD := vD_eq2 hD (List.nil_append _)
  refine W.widen (k := 179) (n := 1733) (Nat.le_of_ble_eq_true rfl) (Nat.le_of_ble_eq_true rfl) ?_
  refine lv_astore_n (lv' := [(1, .ref h), (0, .ref b)]) hx hb dL_law_7 rfl hl (by decide) rfl (fun ls hl => ?_)
  refine r_new (ci := 8) (fs := [.int 0, .null, .int 0, .null, .null, .null, .int 0, .null, .null, .null, .int 0, .int 0, .int 0, .int 0]) hx hb htsG in_X8 tyX8_ok hown nl_L_80 hK hP hD hS hA rfl (fun j hj => by rcases (show j = 0 ∨ j = 1 ∨ j = 2 ∨ j = 3 ∨ j = 4 ∨ j = 5 ∨ j = 6 ∨ j = 7 ∨ j = 8 ∨ j = 9 ∨ j = 10 ∨ j = 11 ∨ j = 12 ∨ j = 13 by omega) with rfl | rfl | rfl | rfl | rfl | rfl | rfl | rfl | rfl | rfl | rfl | rfl | rfl | rfl <;> rfl) (Nat.le_of_ble_eq_true rfl) (Nat.le_of_ble_eq_true rfl) dL_law_8 (fun mo H hP hD hS => ?_)
  refine lv_dup hx hb dL_law_11 rfl ?_
  refine k_ctor (rest := [.ref mo]) (As := []) hx hb hml hown htsG hK hP hD hS hA hE hl.1 (c_X8_init l G kk mo) il_L_82 ⟨Nat.le_of_ble_eq_true rfl, Nat.le_of_ble_eq_true rfl, rfl, rfl⟩ 179 w0_len ⟨Nat.le_of_ble_eq_true rfl, Nat.le_of_ble_eq_true rfl⟩ rfl (Nat.le_of_ble_eq_true rfl) dL_law_12 (fun H locs t ht hB hj hS => ?_)
  obtain ⟨b8, hP1, hK1, hD1⟩ := hB
  rw [ht] at hP1
  obtain ⟨hP, hD⟩ := hj _ hP1 hD1
  refine W.widen (k := 187) (n := 3027) (Nat.le_of_ble_eq_true rfl) (Nat.le_of_ble_eq_true rfl) ?_
  refine lv_astore_n (lv' := [(2, .ref mo), (1, .ref h), (0, .ref b)]) hx hb dL_law_15 rfl hl (by decide) rfl (fun ls hl => ?_)
  refine lv_iconst (v := 1) hx hb dL_law_16 (by decide) ?_
  refine r_newa (ty := .long) (t := 5) (a0 := (1, .inr (.inl (fun _ => 0)))) (N' := 1) hx hb htsG ac_long rfl hK hP hD hS hA rfl (fun _ => rfl) (by decide) (by decide) (by decide) (Nat.le_of_ble_eq_true rfl) (Nat.le_of_ble_eq_true rfl) dL_law_17 (fun o H hP hD hS => ?_)
  refine W.widen (k := 188) (n := 3028) (Nat.le_of_ble_eq_true rfl) (Nat.le_of_ble_eq_true rfl) ?_
  replace hP := vP_eq2 hP w_eq
  replace hD := vD_eq2 hD w_eq
  refine lv_astore_n (lv' := [(3, .ref o), (2, .ref mo), (1, .ref h), (0, .ref b)]) hx hb dL_law_19 rfl hl (by decide) rfl (fun ls hl => ?_)
  refine lv_iconst (v := 0) hx hb dL_law_20 (by decide) ?_
  refine lv_istore (lv' := [(4, .int 0), (3, .ref o), (2, .ref mo), (1, .ref h), (0, .ref b)]) hx hb dL_law_21 hl (by decide) rfl (fun ls hl => ?_)
  refine law_loop hL X (fun H locs ls C S hS hC hS0 => ?_) 512 0 (Nat.zero_le _) (by omega) gz gz gz gz uz rz gz uz rz gz (fun j => j) (fun _ => gz) (fun _ => uz) (fun _ => rz) gz gz uz rz gz gz uz rz gz gz (sX8_clear gz) gz gz gz gz gz (fun _ => 0) inv_0 H _ ls hP hD hS (lv_sub hl [4, 3, 2, 1, 0] rfl)
  refine lv_iconst (v := 1) hx hb dL_law_1430 (by decide) ?_
  refine va_forget (fun q hq => by have h9 := hS.2.2 q hq; rw [eA] at h9; exact h9) ?_
  refine W.widen (k := 601024) (n := 7293034) hC hS0 ?_
  exact lw_ret hx hb hr hlocks dL_law_1431
