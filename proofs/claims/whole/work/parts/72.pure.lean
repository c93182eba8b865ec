/-! PURE: a text is read -/
section P23
variable {q0 tq sg tx z ft jb : Nat → Int32} {q2 : Int32} {sz p n : Nat}
theorem not_cmd {x : Int32} (h1 : ¬ x = 114) (h2 : ¬ x = 111) (h3 : ¬ x = 122) (h4 : ¬ x = 109) (h5 : ¬ x = 108) : sX1_isCommand x = 0 := by
  unfold sX1_isCommand
  rw [if_neg h1, if_neg h2, if_neg h3, if_neg h4, if_neg h5]
theorem cmd_step (T : TXT tq sg q2 tx sz) {q : Nat → Int32} (hp : p < sz) (h1 : RDR q p 0) (hz : z 2 = nI sz) : CST sz p n z ft (sX1_readsCommand q tq sg) (sX8_readCommand z tx ft jb p n) := by
  have hsz := T.2.2.1
  have es := sign_in T hp
  obtain ⟨-, tx2, tx3⟩ := T.2.2.2 p hp
  have hm1 : ¬ tx p = -1 := fun h => by
    rw [h] at tx2
    exact absurd tx2 (by decide)
  have eC : sX1_readsCommand q tq sg = sX1_readsCommand_z_1 q tq sg (sX1_moveIf (upd q 3 (tx p)) (sX1_isCommand (tx p))) := by
    unfold sX1_readsCommand
    rw [if_pos h1.2, h1.1, es, if_neg hm1]
  rw [eC]
  have good : sX1_isCommand (tx p) = 1 → (sX1_moveIf (upd q 3 (tx p)) (sX1_isCommand (tx p))) = upd (upd q 3 (tx p)) 1 (nI (p + 1)) := fun h => by
    rw [h]
    unfold sX1_moveIf
    rw [if_neg (show ¬ (1 : Int32) = 0 by decide), if_pos (show upd q 3 (tx p) 2 = 0 by rw [pk_un (by decide)]; exact h1.2)]
    rw [show upd q 3 (tx p) 1 = nI p by rw [pk_un (by decide)]; exact h1.1]
    exact congrArg (upd (upd q 3 (tx p)) 1) (nI_1 p)
  have r1 : RDR (upd (upd q 3 (tx p)) 1 (nI (p + 1))) (p + 1) 0 := ⟨pk_us, by rw [pk_un (by decide), pk_un (by decide)]; exact h1.2⟩
  have r3 : (upd (upd q 3 (tx p)) 1 (nI (p + 1))) 3 = tx p := by rw [pk_un (by decide), pk_us]
  have rz : RFR (upd (upd z 11 (nI (p + 1))) 13 1) (p + 1) 1 sz := ⟨by rw [pk_un (by decide), pk_us], pk_us, by rw [pk_un (by decide), pk_un (by decide)]; exact hz⟩
  have kz : K113 z (upd (upd z 11 (nI (p + 1))) 13 1) := fun k k1 k2 => by rw [pk_un k2, pk_un k1]
  generalize hq1 : upd (upd q 3 (tx p)) 1 (nI (p + 1)) = q1 at good r1 r3
  by_cases c108 : tx p = 108
  · rw [good (by rw [c108]; rfl)]
    have N := num_eq T (LO := 0) (HI := 9999) (dg := 4) (by omega) (by decide) (by decide) (by decide) (by decide) r1 rz
    rw [show nI 0 = 0 from rfl, show nI 9999 = 9999 from rfl] at N
    unfold sX1_readsCommand_z_1 sX8_readCommand
    rw [if_pos r1.2, r3, c108, if_pos (show (108 : Int32) = 108 from rfl), if_pos (show (108 : Int32) = 108 from rfl)]
    generalize sX1_readNumber q1 tq sg 4 0 9999 = C1 at N ⊢
    generalize sX8_figures (upd (upd z 11 (nI (p + 1))) 13 1) tx (p + 1) 4 0 9999 = R1 at N ⊢
    exact one_c (c := 108) (r3.trans c108) kz N rfl d_l (fun V _ v2 v3 v4 => g_l v2 v3 v4)
  · by_cases c109 : tx p = 109
    · rw [good (by rw [c109]; rfl)]
      have N := num_eq T (LO := 1) (HI := 60) (dg := 2) (by omega) (by decide) (by decide) (by decide) (by decide) r1 rz
      rw [show nI 1 = 1 from rfl, show nI 60 = 60 from rfl] at N
      unfold sX1_readsCommand_z_1 sX8_readCommand
      rw [if_pos r1.2, r3, c109, if_neg (show ¬ (109 : Int32) = 108 by decide), if_pos (show (109 : Int32) = 109 from rfl), if_neg (show ¬ (109 : Int32) = 108 by decide), if_pos (show (109 : Int32) = 109 from rfl)]
      generalize sX1_readNumber q1 tq sg 2 1 60 = C1 at N ⊢
      generalize sX8_figures (upd (upd z 11 (nI (p + 1))) 13 1) tx (p + 1) 2 1 60 = R1 at N ⊢
      exact one_c (c := 109) (r3.trans c109) kz N rfl d_m (fun V v1 v2 v3 v4 => g_m v1 v2 v3 v4)
    · by_cases c111 : tx p = 111
      · rw [good (by rw [c111]; rfl)]
        have N := num_eq T (LO := 0) (HI := 5) (dg := 1) (by omega) (by decide) (by decide) (by decide) (by decide) r1 rz
        rw [show nI 0 = 0 from rfl, show nI 5 = 5 from rfl] at N
        have eR : sX8_readCommand z tx ft jb p n = sX8_readCommand_z_7 z tx ft jb p n (sX8_figures (upd (upd z 11 (nI (p + 1))) 13 1) tx (p + 1) 1 0 5) := by
          unfold sX8_readCommand
          rw [c111, if_neg (show ¬ (111 : Int32) = 108 by decide), if_neg (show ¬ (111 : Int32) = 109 by decide), if_neg (show ¬ (111 : Int32) = 110 by decide), if_pos (show (111 : Int32) = 111 from rfl)]
        rw [eR]
        unfold sX1_readsCommand_z_1
        rw [if_pos r1.2, r3, c111, if_neg (show ¬ (111 : Int32) = 108 by decide), if_neg (show ¬ (111 : Int32) = 109 by decide), if_neg (show ¬ (111 : Int32) = 114 by decide)]
        generalize sX1_readNumber q1 tq sg 1 0 5 = C1 at N ⊢
        generalize sX8_figures (upd (upd z 11 (nI (p + 1))) 13 1) tx (p + 1) 1 0 5 = R1 at N ⊢
        refine one_c (c := 111) (r3.trans c111) kz N rfl d_o (fun V _ v2 v3 v4 => g_oz (y := 1) (jb := jb) v2 v4 (Or.inr rfl) (fun qc c3 g u rv => ?_) ?_)
        · unfold sX7_doCommand
          rw [c3, if_neg (by decide), if_pos (show (111 : Int32) = 111 from rfl)]
          rfl
        · have := o_e (z := z) (tx := tx) (ft := ft) (jb := jb) (p := p) (n := n) v3
          rw [if_pos c111] at this
          exact this
      · by_cases c114 : tx p = 114
        · rw [good (by rw [c114]; rfl)]
          have N := num_eq T (LO := 1) (HI := 50) (dg := 2) (by omega) (by decide) (by decide) (by decide) (by decide) r1 rz
          have eR : sX8_readCommand z tx ft jb p n = sX8_readCommand_z_13 z tx ft jb p n (sX8_figures (upd (upd z 11 (nI (p + 1))) 13 1) tx (p + 1) 2 1 50) := by
            unfold sX8_readCommand
            rw [c114, if_neg (show ¬ (114 : Int32) = 108 by decide), if_neg (show ¬ (114 : Int32) = 109 by decide), if_neg (show ¬ (114 : Int32) = 110 by decide), if_neg (show ¬ (114 : Int32) = 111 by decide), if_neg (show ¬ (114 : Int32) = 112 by decide), if_neg (show ¬ (114 : Int32) = 113 by decide), if_pos (show (114 : Int32) = 114 from rfl)]
          rw [eR]
          unfold sX1_readsCommand_z_1
          rw [if_pos r1.2, r3, c114, if_neg (show ¬ (114 : Int32) = 108 by decide), if_neg (show ¬ (114 : Int32) = 109 by decide), if_pos (show (114 : Int32) = 114 from rfl)]
          rw [show nI 1 = 1 from rfl, show nI 50 = 50 from rfl] at N
          generalize sX1_readNumber q1 tq sg 2 1 50 = C1 at N ⊢
          generalize sX8_figures (upd (upd z 11 (nI (p + 1))) 13 1) tx (p + 1) 2 1 50 = R1 at N ⊢
          exact g_r T (r3.trans c114) kz N
        · by_cases c122 : tx p = 122
          · rw [good (by rw [c122]; rfl)]
            have N := num_eq T (LO := 0) (HI := 5) (dg := 1) (by omega) (by decide) (by decide) (by decide) (by decide) r1 rz
            rw [show nI 0 = 0 from rfl, show nI 5 = 5 from rfl] at N
            have eR : sX8_readCommand z tx ft jb p n = sX8_readCommand_z_21 z tx ft jb p n (sX8_figures (upd (upd z 11 (nI (p + 1))) 13 1) tx (p + 1) 1 0 5) := by
              unfold sX8_readCommand
              rw [c122, if_neg (show ¬ (122 : Int32) = 108 by decide), if_neg (show ¬ (122 : Int32) = 109 by decide), if_neg (show ¬ (122 : Int32) = 110 by decide), if_neg (show ¬ (122 : Int32) = 111 by decide), if_neg (show ¬ (122 : Int32) = 112 by decide), if_neg (show ¬ (122 : Int32) = 113 by decide), if_neg (show ¬ (122 : Int32) = 114 by decide), if_neg (show ¬ (122 : Int32) = 115 by decide), if_neg (show ¬ (122 : Int32) = 116 by decide), if_neg (show ¬ (122 : Int32) = 117 by decide), if_neg (show ¬ (122 : Int32) = 118 by decide), if_neg (show ¬ (122 : Int32) = 119 by decide), if_neg (show ¬ (122 : Int32) = 120 by decide), if_neg (show ¬ (122 : Int32) = 121 by decide), if_pos (show (122 : Int32) = 122 from rfl)]
            rw [eR]
            unfold sX1_readsCommand_z_1
            rw [if_pos r1.2, r3, c122, if_neg (show ¬ (122 : Int32) = 108 by decide), if_neg (show ¬ (122 : Int32) = 109 by decide), if_neg (show ¬ (122 : Int32) = 114 by decide)]
            generalize sX1_readNumber q1 tq sg 1 0 5 = C1 at N ⊢
            generalize sX8_figures (upd (upd z 11 (nI (p + 1))) 13 1) tx (p + 1) 1 0 5 = R1 at N ⊢
            refine one_c (c := 122) (r3.trans c122) kz N rfl d_z (fun V _ v2 v3 v4 => g_oz (y := 0) (jb := jb) v2 v4 (Or.inl rfl) (fun qc c3 g u rv => ?_) ?_)
            · unfold sX7_doCommand
              rw [c3, if_neg (by decide), if_neg (by decide), if_neg (by decide), if_pos (show (122 : Int32) = 122 from rfl)]
              rfl
            · have := z_e (z := z) (tx := tx) (ft := ft) (jb := jb) (p := p) (n := n) v3
              rw [if_neg c111] at this
              exact this
          · have ec := not_cmd c114 c111 c122 c109 c108
            have em : sX1_moveIf (upd q 3 (tx p)) 0 = upd (upd q 3 (tx p)) 2 1 := if_pos rfl
            rw [ec, em]
            have eR : sX8_readCommand z tx ft jb p n = (0, upd (upd z 11 (nI p)) 13 1, ft, jb) := by
              unfold sX8_readCommand
              rw [if_neg c108, if_neg c109, if_neg c111, if_neg c114, if_neg c122]
              simp only [ite_self]
            have eZ : sX1_readsCommand_z_1 q tq sg (upd (upd q 3 (tx p)) 2 1) = (0, upd (upd q 3 (tx p)) 2 1) := by
              unfold sX1_readsCommand_z_1
              rw [if_neg (show ¬ upd (upd q 3 (tx p)) 2 1 2 = 0 by rw [pk_us]; decide)]
            rw [eR, eZ]
            refine ⟨fun k k1 k2 k3 k4 => ?_, Or.inl ⟨p, Nat.le_refl _, by omega, rfl, ⟨?_, ?_⟩, rfl, ?_⟩⟩
            · dsimp only
              rw [pk_un k4, pk_un k2]
            · dsimp only
              rw [pk_un (by decide), pk_un (by decide)]; exact h1.1
            · dsimp only
              rw [pk_us]
            · dsimp only
              rw [pk_un (by decide), pk_us]
end P23
