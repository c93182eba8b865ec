set_option maxRecDepth 100000 in
set_option maxHeartbeats 4000000 in
theorem c_L_about (l : Launch) (hst : l.stackTraces = false) (G : va_G) (kk : Nat → ClassId) (h : Nat) (ad : Nat → Nat → Nat) (g : Nat → Int32) (u : Nat → Int32) (rv : Nat → Nat → Int32) (x : Int32) (o : Nat) (fo : Nat → Int64)  : CH l yL_about cL_about 4 [(0, 9, 12, 13)] (rmX 7 107) [.ref h, .int x, .ref o] G kk ([(h, .inr (7, mrG ad))] ++ (stW kk (ad 3) g u rv ++ ([(o, .inl (kk 5, 1, .inr (.inl fo)))]))) (QI G kk ([(h, .inr (7, mrG ad))] ++ (stW kk (ad 3) g u rv ++ ([(o, .inl (kk 5, 1, .inr (.inl (oL ((sX7_about g u rv x).1) ((sX7_about g u rv x).2) fo))))]))) (h1 1 ((sX7_about g u rv x).1))) := by
  have hcx := c_X7_about l hst G kk h ad g u rv x 
  generalize sX7_about g u rv x = zz at hcx ⊢
  refine ch_start (by decide +kernel) (Nat.le_of_ble_eq_true rfl) ?_
  intro p e s m below meth c A ls hx hb hr hml hown hts hlocks hA hE hN hK hP hD hS hl htab
  have hown : s.vm.findClass RL = some m.cls := hown
  have hl : lv_has ls 4 [(0, .ref h), (1, .int x), (2, .ref o)] := hl
  refine lv_aload_n hx hb dL_about_0 rfl (lv_at hl 2 rfl) ?_
  refine lv_iconst (v := 0) hx hb dL_about_1 (by decide) ?_
  refine lv_aload_n hx hb dL_about_2 rfl (lv_at hl 0 rfl) ?_
  refine lv_iload_n hx hb dL_about_3 rfl (lv_at hl 1 rfl) ?_
  refine k_goX (k_runX (rest := [.int 0, .ref o]) (As := [.int x]) hx hb hml hown hts hK hP hD hS hA hE hl.1 hcx vl_L_21 rfl rfl rfl ⟨Nat.le_of_ble_eq_true rfl, Nat.le_of_ble_eq_true rfl, rfl, rfl⟩ ([0] ++ (List.range' 1 9)) (by decide +kernel) (mp_b (mp_c q0 mp_nil) (skip_map (m := 1) (n := 0) (sg_C st_len) rfl)) ⟨Nat.le_of_ble_eq_true rfl, Nat.le_of_ble_eq_true rfl⟩ rfl (Nat.le_of_ble_eq_true rfl) dL_about_4) hP hD hS hA ([0] ++ (List.range' 1 9)) (mp_b (mp_c q0 mp_nil) (skip_map (m := 1) (n := 0) (sg_C st_len) rfl)) (ads_app ads1 st_ads) (fun E ce q9 H locs hcd hEx hP hD hS hce hcv hcl => ?_) (fun H locs hcd hP hD hS => ?_)
  · skip
    replace hP : va_P G vwCl ([(h, .inr (7, mrG ad))] ++ (stW kk (ad 3) g u rv ++ ([(o, .inl (kk 5, 1, .inr (.inl fo)))]))) H := vP_eq2 hP (sm_b (ws1 := [(h, .inr (7, mrG ad))] ++ (stW kk (ad 3) g u rv ++ ([(o, .inl (kk 5, 1, .inr (.inl fo)))]))) (sm_c (ws1 := [(h, .inr (7, mrG ad))] ++ (stW kk (ad 3) g u rv ++ ([(o, .inl (kk 5, 1, .inr (.inl fo)))]))) (by exact e0) rfl) rfl (skip_set (m := 1) (n := 0) (sg_S st_len st_len) rfl))
    replace hD : va_D A ([(h, .inr (7, mrG ad))] ++ (stW kk (ad 3) g u rv ++ ([(o, .inl (kk 5, 1, .inr (.inl fo)))]))) := vD_eq2 hD (sm_b (ws1 := [(h, .inr (7, mrG ad))] ++ (stW kk (ad 3) g u rv ++ ([(o, .inl (kk 5, 1, .inr (.inl fo)))]))) (sm_c (ws1 := [(h, .inr (7, mrG ad))] ++ (stW kk (ad 3) g u rv ++ ([(o, .inl (kk 5, 1, .inr (.inl fo)))]))) (by exact e0) rfl) rfl (skip_set (m := 1) (n := 0) (sg_S st_len st_len) rfl))
    have h9 := mem1 hcd
    have hEx : E = "java/lang/IllegalArgumentException" := by rw [hEx, h9]; rfl
    subst hEx
    refine vx_catch (own := RL) (name := "java/lang/IllegalArgumentException") hown [] ⟨0, 9, 12, 13⟩ [] htab (fun z hz => by cases hz) rfl (by decide) (hts _ cl_13) (hE.1.use xc_1 _) hce hcv hcl ?_
    refine lv_astore_n (lv' := [(3, .ref q9), (0, .ref h), (1, .int x), (2, .ref o)]) hx hb dL_about_12 rfl hl (by decide) rfl (fun ls hl => ?_)
    refine lv_iconst (v := 1) hx hb dL_about_13 (by decide) ?_
    exact fin_h hx hb hr hlocks hK (vP_eq (congrArg (fun z : Nat → Int64 => ([(h, .inr (7, mrG ad))] ++ (stW kk (ad 3) g u rv ++ ([(o, .inl (kk 5, 1, .inr (.inl z)))])) : va_W)) ((oL_n (r := zz.2) h9 (by decide)).symm)) hP) (vD_eq (congrArg (fun z : Nat → Int64 => ([(h, .inr (7, mrG ad))] ++ (stW kk (ad 3) g u rv ++ ([(o, .inl (kk 5, 1, .inr (.inl z)))])) : va_W)) ((oL_n (r := zz.2) h9 (by decide)).symm)) hD) hS (h1_1 h9 (by decide)) dL_about_14
  · skip
    replace hP : va_P G vwCl ([(h, .inr (7, mrG ad))] ++ (stW kk (ad 3) g u rv ++ ([(o, .inl (kk 5, 1, .inr (.inl fo)))]))) H := vP_eq2 hP (sm_b (ws1 := [(h, .inr (7, mrG ad))] ++ (stW kk (ad 3) g u rv ++ ([(o, .inl (kk 5, 1, .inr (.inl fo)))]))) (sm_c (ws1 := [(h, .inr (7, mrG ad))] ++ (stW kk (ad 3) g u rv ++ ([(o, .inl (kk 5, 1, .inr (.inl fo)))]))) (by exact e0) rfl) rfl (skip_set (m := 1) (n := 0) (sg_S st_len st_len) rfl))
    replace hD : va_D A ([(h, .inr (7, mrG ad))] ++ (stW kk (ad 3) g u rv ++ ([(o, .inl (kk 5, 1, .inr (.inl fo)))]))) := vD_eq2 hD (sm_b (ws1 := [(h, .inr (7, mrG ad))] ++ (stW kk (ad 3) g u rv ++ ([(o, .inl (kk 5, 1, .inr (.inl fo)))]))) (sm_c (ws1 := [(h, .inr (7, mrG ad))] ++ (stW kk (ad 3) g u rv ++ ([(o, .inl (kk 5, 1, .inr (.inl fo)))]))) (by exact e0) rfl) rfl (skip_set (m := 1) (n := 0) (sg_S st_len st_len) rfl))
    refine lv_i2l (v := zz.2.toInt64) hx hb dL_about_7 rfl ?_
    refine va_last (x := zz.2.toInt64) hx hb hK hP hD hS 10 5 (sk_get (m := 1) (n := 9) (sk_get (m := 9) (n := 0) q0 st_len) rfl) rfl (ix_in (k := 0) rfl (by decide) (by decide)) dL_about_8 (fun H locs hP hD hS => ?_)
    replace hP : va_P G vwCl ([(h, .inr (7, mrG ad))] ++ (stW kk (ad 3) g u rv ++ ([(o, .inl (kk 5, 1, .inr (.inl (vp_updL fo 0 zz.2.toInt64))))]))) H := vP_eq2 hP (sk_set (m := 1) (n := 9) (sk_set (m := 9) (n := 0) e0 st_len) rfl)
    replace hD : va_D A ([(h, .inr (7, mrG ad))] ++ (stW kk (ad 3) g u rv ++ ([(o, .inl (kk 5, 1, .inr (.inl (vp_updL fo 0 zz.2.toInt64))))]))) := vD_eq2 hD (sk_set (m := 1) (n := 9) (sk_set (m := 9) (n := 0) e0 st_len) rfl)
    refine lv_goto (tgt := 15) hx hb dL_about_9 (by decide) ?_
    refine lv_iconst (v := 0) hx hb dL_about_15 (by decide) ?_
    exact fin_h hx hb hr hlocks hK (vP_eq (congrArg (fun z : Nat → Int64 => ([(h, .inr (7, mrG ad))] ++ (stW kk (ad 3) g u rv ++ ([(o, .inl (kk 5, 1, .inr (.inl z)))])) : va_W)) ((oL_0 (r := zz.2) hcd).symm)) hP) (vD_eq (congrArg (fun z : Nat → Int64 => ([(h, .inr (7, mrG ad))] ++ (stW kk (ad 3) g u rv ++ ([(o, .inl (kk 5, 1, .inr (.inl z)))])) : va_W)) ((oL_0 (r := zz.2) hcd).symm)) hD) hS (h1_0 hcd) dL_about_16
