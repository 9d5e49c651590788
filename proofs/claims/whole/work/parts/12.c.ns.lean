abbrev rm_NS_bindName : Room := { frames := 4, cells := 6000, slots := 36000, locals := 93 }
set_option maxHeartbeats 4000000 in
set_option maxRecDepth 100000 in
theorem c_NS_bindName (l : Launch) (E : gE) (x g kp pa la s n te sp : Nat) (gc : GlT) (gk : glOK gc) (lac : RowT) (lak : rowOK lac) (sc : ScT) (sk : scOK sc) (spc : RowT) (spk : rowOK spc) (σ : Nat → Nat) (hm : mea lac σ) (hs : scFor sc lac) (k : Nat) (y : Int) (hy : y = rG lac k) (hk : k < rN lac) (hmt : mat (sO sc) (env (rF lac) k)) (hn : rN spc < 3000) (hk0 : rF lac k = 0) : Ct l E y_NS_bindName b_NS_bindName 6 (some .boolean) rm_NS_bindName [.ref x, .int (iI (k : Int)), .long (lI y)] (nsO x g kp pa la s n te sp ++ glW E g gc ++ rowW E la lac ++ scW E s sc ++ rowW E sp spc) (fun v w dc ds => ∃ ρ, ∃ t : Int, v = some (.int (iI t)) ∧ w = nsO x g kp pa la s n te sp ++ glW E g gc ++ rowW E la lac ++ scW E s sc ++ rowW E sp ρ ∧ rowOK ρ ∧ ((∃ p, bN (rF lac) (rG lac) (uN gc) (uF gc) k = some p ∧ t = 1 ∧ rL ρ = rL spc ++ [p] ∧ rGrow spc ρ dc ds) ∨ (bN (rF lac) (rG lac) (uN gc) (uF gc) k = none ∧ t = 0 ∧ ρ = spc ∧ dc = 0 ∧ ds = 0))) := by
  subst hy
  obtain ⟨g1, g2⟩ := id gk
  obtain ⟨⟨la1, la2, la3, la4⟩, laf, lag, lah⟩ := id lak
  obtain ⟨⟨sp1, sp2, sp3, sp4⟩, spf, spg, sph⟩ := id spk
  have ed := hs.d hk
  have zs := hs.1
  have dk : dep (rF lac) k ≤ k := env_le hm.1 hm.2.1 hk
  have hgk := lag k
  refine g_start (by decide) (Nat.le_of_ble_eq_true rfl) (fun X hX hE hin => ?_)
  refine g_aload_n (pc := 0) hX 0 d_NS_bindName_0 rfl rfl ?_
  refine g_get (pc := 1) hX f_NS_32 0 rfl rfl d_NS_bindName_1 ?_
  refine g_lload_n (pc := 4) hX 2 d_NS_bindName_4 rfl rfl ?_
  refine g_aload_n (pc := 5) hX 0 d_NS_bindName_5 rfl rfl ?_
  refine g_get (pc := 6) hX f_NS_26 0 rfl rfl d_NS_bindName_6 ?_
  refine g_iload_n (pc := 9) hX 1 d_NS_bindName_9 rfl rfl ?_
  refine g_iV (pc := 10) hX (c_SC_indexOf l E s sc sk _ (by omega) la lac lak _ (by omega)) gy_SC_indexOf gv_SC_indexOf w_283 rfl (by decide) (by decide) [7, 8, 9, 10, 3, 4, 5, 6] rfl rfl rfl rfl rfl _ rfl (Nat.le_of_ble_eq_true rfl) d_NS_bindName_10 (show _ + 0 ≤ 6000 by omega) (show _ + 0 ≤ 36000 by omega) ?_
  have hix : fnd (zD sc (k : Int)).toNat (fun i => rB lac (zO sc (zD sc (k : Int) - 1 - i))) (rG lac k) = bIdx (rF lac) (rG lac) k (rG lac k) := by
    rw [ed]
    exact fnd_congr (fun i hi => by
      obtain ⟨u1, u2⟩ := hs.op sk hm hk hmt (i := i) (by omega)
      rw [u1, rB_t (by omega)]; rfl) _
  rw [hix]
  have hi1 := fnd_in (dep (rF lac) k) (fun i => rG lac ((env (rF lac) k).getD i 0)) (rG lac k)
  change -1 ≤ bIdx (rF lac) (rG lac) k (rG lac k) ∧ bIdx (rF lac) (rG lac) k (rG lac k) < _ at hi1
  have hi2 := fnd_in (uN gc) (uF gc) (rG lac k)
  refine g_istore (pc := 13) hX d_NS_bindName_13 (by decide) ?_
  refine g_iload (pc := 15) hX d_NS_bindName_15 rfl ?_
  refine g_iconst (pc := 17) hX d_NS_bindName_17 ?_
  refine g_icmp_eq (pc := 18) (tgt := 34) hX d_NS_bindName_18 (by decide) (by omega) (by omega) (fun c_1 => ?_) (fun c_1 => ?_)
  · refine g_aload_n (pc := 34) hX 0 d_NS_bindName_34 rfl rfl ?_
    refine g_get (pc := 35) hX f_NS_10 0 rfl rfl d_NS_bindName_35 ?_
    refine g_lload_n (pc := 38) hX 2 d_NS_bindName_38 rfl rfl ?_
    refine g_iV (pc := 39) hX (c_GL_find l E g gc gk _ (by omega)) gy_GL_find gv_GL_find w_292 rfl (by decide) (by decide) [1, 2] rfl rfl rfl rfl rfl _ rfl (Nat.le_of_ble_eq_true rfl) d_NS_bindName_39 (show _ + 0 ≤ 6000 by omega) (show _ + 0 ≤ 36000 by omega) ?_
    refine g_istore (pc := 42) hX d_NS_bindName_42 (by decide) ?_
    refine g_iload (pc := 44) hX d_NS_bindName_44 rfl ?_
    refine g_iconst (pc := 46) hX d_NS_bindName_46 ?_
    refine g_icmp_ne (pc := 47) (tgt := 52) hX d_NS_bindName_47 (by decide) (by omega) (by omega) (fun c_2 => ?_) (fun c_2 => ?_)
    · refine g_aload_n (pc := 52) hX 0 d_NS_bindName_52 rfl rfl ?_
      refine g_get (pc := 53) hX f_NS_46 0 rfl rfl d_NS_bindName_53 ?_
      refine g_bipush (pc := 56) hX 7 d_NS_bindName_56 (by decide) ?_
      refine g_iload (pc := 58) hX d_NS_bindName_58 rfl ?_
      refine g_i2l (pc := 60) hX d_NS_bindName_60 (by omega) ?_
      refine g_callV (pc := 61) hX (c_RW_add l E sp spc spk _ (by omega) _ (by omega) (by omega)) gy_RW_add gv_RW_add w_160 rfl (by decide) (by decide) [11, 12, 13, 14] rfl rfl rfl rfl rfl _ rfl (Nat.le_of_ble_eq_true rfl) d_NS_bindName_61 (show _ + 6000 ≤ 6000 by omega) (show _ + 36000 ≤ 36000 by omega) (fun _ _ _ _ h => by obtain ⟨_, _, h2, _⟩ := h; rw [h2]; exact Nat.le_of_ble_eq_true rfl) (fun v w dc_3 ds_3 hp => ?_)
      obtain ⟨sp_3, rfl, rfl, spk_3, f_3⟩ := hp
      refine g_wsP (nsO x g kp pa la s n te sp ++ glW E g gc ++ rowW E la lac ++ scW E s sc ++ rowW E sp sp_3) rfl rfl ?_
      obtain ⟨d1, d2, d3, d4, d5⟩ := f_3
      obtain ⟨⟨t1, t2, t3, t4⟩, -⟩ := id spk_3
      refine g_iconst (pc := 64) hX d_NS_bindName_64 ?_
      exact g_zret (pc := 65) hX hE (by first | exact Or.inl rfl | exact Or.inr rfl | exact bZ_01 _) d_NS_bindName_65 (show _ ≤ 6000 by omega) (show _ ≤ 36000 by omega) ⟨sp_3, 1, rfl, rfl, spk_3, Or.inl ⟨_, by unfold bN; rw [if_pos hk0, if_neg (by omega), if_pos (by omega)], rfl, d1, by rw [Nat.zero_add, Nat.zero_add]; exact ⟨d3, d4, d5⟩⟩⟩
    · refine g_iconst (pc := 50) hX d_NS_bindName_50 ?_
      exact g_zret (pc := 51) hX hE (by first | exact Or.inl rfl | exact Or.inr rfl | exact bZ_01 _) d_NS_bindName_51 (show _ ≤ 6000 by omega) (show _ ≤ 36000 by omega) ⟨spc, 0, rfl, rfl, spk, Or.inr ⟨by unfold bN; rw [if_pos hk0, if_neg (by omega), if_neg (by omega)], rfl, rfl, rfl, rfl⟩⟩
  · refine g_aload_n (pc := 21) hX 0 d_NS_bindName_21 rfl rfl ?_
    refine g_get (pc := 22) hX f_NS_46 0 rfl rfl d_NS_bindName_22 ?_
    refine g_iconst (pc := 25) hX d_NS_bindName_25 ?_
    refine g_iload (pc := 26) hX d_NS_bindName_26 rfl ?_
    refine g_i2l (pc := 28) hX d_NS_bindName_28 (by omega) ?_
    refine g_callV (pc := 29) hX (c_RW_add l E sp spc spk _ (by omega) _ (by omega) (by omega)) gy_RW_add gv_RW_add w_160 rfl (by decide) (by decide) [11, 12, 13, 14] rfl rfl rfl rfl rfl _ rfl (Nat.le_of_ble_eq_true rfl) d_NS_bindName_29 (show _ + 6000 ≤ 6000 by omega) (show _ + 36000 ≤ 36000 by omega) (fun _ _ _ _ h => by obtain ⟨_, _, h2, _⟩ := h; rw [h2]; exact Nat.le_of_ble_eq_true rfl) (fun v w dc_4 ds_4 hp => ?_)
    obtain ⟨sp_4, rfl, rfl, spk_4, f_4⟩ := hp
    refine g_wsP (nsO x g kp pa la s n te sp ++ glW E g gc ++ rowW E la lac ++ scW E s sc ++ rowW E sp sp_4) rfl rfl ?_
    obtain ⟨d1, d2, d3, d4, d5⟩ := f_4
    obtain ⟨⟨t1, t2, t3, t4⟩, -⟩ := id spk_4
    refine g_iconst (pc := 32) hX d_NS_bindName_32 ?_
    exact g_zret (pc := 33) hX hE (by first | exact Or.inl rfl | exact Or.inr rfl | exact bZ_01 _) d_NS_bindName_33 (show _ ≤ 6000 by omega) (show _ ≤ 36000 by omega) ⟨sp_4, 1, rfl, rfl, spk_4, Or.inl ⟨_, by unfold bN; rw [if_pos hk0, if_pos (by omega)], rfl, d1, by rw [Nat.zero_add, Nat.zero_add]; exact ⟨d3, d4, d5⟩⟩⟩

abbrev rm_NS_bindNode : Room := { frames := 5, cells := 6000, slots := 36000, locals := 118 }
set_option maxHeartbeats 4000000 in
set_option maxRecDepth 100000 in
theorem c_NS_bindNode (l : Launch) (E : gE) (x g kp pa la s n te sp : Nat) (gc : GlT) (gk : glOK gc) (lac : RowT) (lak : rowOK lac) (sc : ScT) (sk : scOK sc) (spc : RowT) (spk : rowOK spc) (σ : Nat → Nat) (hm : mea lac σ) (hs : scFor sc lac) (k : Nat) (hk : k < rN lac) (hmt : mat (sO sc) (env (rF lac) k)) (hn : rN spc < 3000) (hnB : nB lac) (hkB : kB lac) : Ct l E y_NS_bindNode b_NS_bindNode 5 (some .boolean) rm_NS_bindNode [.ref x, .int (iI (k : Int))] (nsO x g kp pa la s n te sp ++ glW E g gc ++ rowW E la lac ++ scW E s sc ++ rowW E sp spc) (fun v w dc ds => ∃ ρ, ∃ t : Int, v = some (.int (iI t)) ∧ w = nsO x g kp pa la s n te sp ++ glW E g gc ++ rowW E la lac ++ scW E s sc ++ rowW E sp ρ ∧ rowOK ρ ∧ ((∃ p, bN (rF lac) (rG lac) (uN gc) (uF gc) k = some p ∧ t = 1 ∧ rL ρ = rL spc ++ [p] ∧ rGrow spc ρ dc ds) ∨ (bN (rF lac) (rG lac) (uN gc) (uF gc) k = none ∧ t = 0 ∧ ρ = spc ∧ dc = 0 ∧ ds = 0))) := by
  obtain ⟨g1, g2⟩ := id gk
  obtain ⟨⟨la1, la2, la3, la4⟩, laf, lag, lah⟩ := id lak
  obtain ⟨⟨sp1, sp2, sp3, sp4⟩, spf, spg, sph⟩ := id spk
  have hgk := lag k
  have hfk := laf k
  have hg0 := hnB k hk
  have hf0 := hkB k hk
  have hf4 := f4_in hg0 hgk
  refine g_start (by decide) (Nat.le_of_ble_eq_true rfl) (fun X hX hE hin => ?_)
  refine g_aload_n (pc := 0) hX 0 d_NS_bindNode_0 rfl rfl ?_
  refine g_get (pc := 1) hX f_NS_26 0 rfl rfl d_NS_bindNode_1 ?_
  refine g_iload_n (pc := 4) hX 1 d_NS_bindNode_4 rfl rfl ?_
  refine g_iV (pc := 5) hX (c_RW_kind l E la lac lak _ (by omega)) gy_RW_kind gv_RW_kind w_273 rfl (by decide) (by decide) [3, 4, 5, 6] rfl rfl rfl rfl rfl _ rfl (Nat.le_of_ble_eq_true rfl) d_NS_bindNode_5 (show _ + 0 ≤ 6000 by omega) (show _ + 0 ≤ 36000 by omega) ?_
  rw [show rK lac (k : Int) = rF lac k from rK_t (by omega)]
  refine g_istore_n (pc := 8) hX 2 d_NS_bindNode_8 rfl (by decide) ?_
  refine g_aload_n (pc := 9) hX 0 d_NS_bindNode_9 rfl rfl ?_
  refine g_get (pc := 10) hX f_NS_26 0 rfl rfl d_NS_bindNode_10 ?_
  refine g_iload_n (pc := 13) hX 1 d_NS_bindNode_13 rfl rfl ?_
  refine g_lV (pc := 14) hX (c_RW_beside l E la lac lak _ (by omega)) gy_RW_beside gv_RW_beside w_274 rfl (by decide) (by decide) [3, 4, 5, 6] rfl rfl rfl rfl rfl _ rfl (Nat.le_of_ble_eq_true rfl) d_NS_bindNode_14 (show _ + 0 ≤ 6000 by omega) (show _ + 0 ≤ 36000 by omega) ?_
  rw [show rB lac (k : Int) = rG lac k from rB_t (by omega)]
  refine g_lstore_n (pc := 17) hX 3 d_NS_bindNode_17 rfl (by decide) ?_
  refine g_iload_n (pc := 18) hX 2 d_NS_bindNode_18 rfl rfl ?_
  by_cases e_0 : rF lac k = 0
  · have hkc : rF lac k = 0 := e_0
    refine g_tsw (pc := 19) (tgt := 60) (off := 41) hX d_NS_bindNode_19 (by omega) (by omega) (by omega) (by rw [hkc]; rfl) (by decide) ?_
    refine g_aload_n (pc := 60) hX 0 d_NS_bindNode_60 rfl rfl ?_
    refine g_iload_n (pc := 61) hX 1 d_NS_bindNode_61 rfl rfl ?_
    refine g_lload_n (pc := 62) hX 3 d_NS_bindNode_62 rfl rfl ?_
    refine g_callV (pc := 63) hX (c_NS_bindName l E x g kp pa la s n te sp gc gk lac lak sc sk spc spk σ hm hs k _ rfl hk hmt hn hkc) gy_NS_bindName gv_NS_bindName w_279 rfl (by decide) (by decide) [0, 1, 2, 3, 4, 5, 6, 7, 8, 9, 10, 11, 12, 13, 14] rfl rfl rfl rfl rfl _ rfl (Nat.le_of_ble_eq_true rfl) d_NS_bindNode_63 (show _ + 6000 ≤ 6000 by omega) (show _ + 36000 ≤ 36000 by omega) (fun _ _ _ _ h => by obtain ⟨_, _, _, h2, _⟩ := h; rw [h2]; exact Nat.le_of_ble_eq_true rfl) (fun v w dc_1 ds_1 hp => ?_)
    obtain ⟨sp_1, t_1, rfl, rfl, spk_1, f_1⟩ := hp
    refine g_wsP (nsO x g kp pa la s n te sp ++ glW E g gc ++ rowW E la lac ++ scW E s sc ++ rowW E sp sp_1) rfl rfl ?_
    have ht : t_1 = 0 ∨ t_1 = 1 := by
      rcases f_1 with ⟨_, _, e, _⟩ | ⟨_, e, _⟩
      · exact Or.inr e
      · exact Or.inl e
    have hbd : dc_1 ≤ 6000 ∧ ds_1 ≤ 36000 := by
      obtain ⟨⟨t1, t2, t3, t4⟩, -⟩ := id spk_1
      rcases f_1 with ⟨_, _, _, _, g1, g2, g3⟩ | ⟨_, _, _, g1, g2⟩
      · constructor <;> omega
      · constructor <;> omega
    exact g_zret (pc := 66) hX hE (by first | assumption | exact Or.inl rfl | exact Or.inr rfl | exact bZ_01 _) d_NS_bindNode_66 (show _ ≤ 6000 by omega) (show _ ≤ 36000 by omega) ⟨sp_1, t_1, rfl, rfl, spk_1, by rw [Nat.zero_add, Nat.zero_add]; exact f_1⟩
  by_cases e_1 : rF lac k = 1
  · have hkc : rF lac k = 1 := e_1
    refine g_tsw (pc := 19) (tgt := 67) (off := 48) hX d_NS_bindNode_19 (by omega) (by omega) (by omega) (by rw [hkc]; rfl) (by decide) ?_
    refine g_aload_n (pc := 67) hX 0 d_NS_bindNode_67 rfl rfl ?_
    refine g_get (pc := 68) hX f_NS_46 0 rfl rfl d_NS_bindNode_68 ?_
    refine g_iload_n (pc := 71) hX 2 d_NS_bindNode_71 rfl rfl ?_
    refine g_lload_n (pc := 72) hX 3 d_NS_bindNode_72 rfl rfl ?_
    refine g_lS (pc := 73) hX (c_NM_firstFour l E _ (by omega) (by omega)) gy_NM_firstFour w_294 w_293 rfl (by decide) (by decide) [] rfl rfl _ rfl (Nat.le_of_ble_eq_true rfl) d_NS_bindNode_73 (show _ + 0 ≤ 6000 by omega) (show _ + 0 ≤ 36000 by omega) ?_
    refine g_callV (pc := 76) hX (c_RW_add l E sp spc spk _ (by omega) _ (by omega) (by omega)) gy_RW_add gv_RW_add w_160 rfl (by decide) (by decide) [11, 12, 13, 14] rfl rfl rfl rfl rfl _ rfl (Nat.le_of_ble_eq_true rfl) d_NS_bindNode_76 (show _ + 6000 ≤ 6000 by omega) (show _ + 36000 ≤ 36000 by omega) (fun _ _ _ _ h => by obtain ⟨_, _, h2, _⟩ := h; rw [h2]; exact Nat.le_of_ble_eq_true rfl) (fun v w dc_2 ds_2 hp => ?_)
    obtain ⟨sp_2, rfl, rfl, spk_2, f_2⟩ := hp
    refine g_wsP (nsO x g kp pa la s n te sp ++ glW E g gc ++ rowW E la lac ++ scW E s sc ++ rowW E sp sp_2) rfl rfl ?_
    obtain ⟨d1, d2, d3, d4, d5⟩ := f_2
    obtain ⟨⟨t1, t2, t3, t4⟩, -⟩ := id spk_2
    refine g_iconst (pc := 79) hX d_NS_bindNode_79 ?_
    exact g_zret (pc := 80) hX hE (by first | exact Or.inl rfl | exact Or.inr rfl | exact bZ_01 _) d_NS_bindNode_80 (show _ ≤ 6000 by omega) (show _ ≤ 36000 by omega) ⟨sp_2, 1, rfl, rfl, spk_2, Or.inl ⟨_, by unfold bN; rw [if_neg (by omega), if_pos (by omega), hkc], rfl, d1, by rw [Nat.zero_add, Nat.zero_add]; exact ⟨d3, d4, d5⟩⟩⟩
  by_cases e_2 : rF lac k = 2
  · have hkc : rF lac k = 2 := e_2
    refine g_tsw (pc := 19) (tgt := 67) (off := 48) hX d_NS_bindNode_19 (by omega) (by omega) (by omega) (by rw [hkc]; rfl) (by decide) ?_
    refine g_aload_n (pc := 67) hX 0 d_NS_bindNode_67 rfl rfl ?_
    refine g_get (pc := 68) hX f_NS_46 0 rfl rfl d_NS_bindNode_68 ?_
    refine g_iload_n (pc := 71) hX 2 d_NS_bindNode_71 rfl rfl ?_
    refine g_lload_n (pc := 72) hX 3 d_NS_bindNode_72 rfl rfl ?_
    refine g_lS (pc := 73) hX (c_NM_firstFour l E _ (by omega) (by omega)) gy_NM_firstFour w_294 w_293 rfl (by decide) (by decide) [] rfl rfl _ rfl (Nat.le_of_ble_eq_true rfl) d_NS_bindNode_73 (show _ + 0 ≤ 6000 by omega) (show _ + 0 ≤ 36000 by omega) ?_
    refine g_callV (pc := 76) hX (c_RW_add l E sp spc spk _ (by omega) _ (by omega) (by omega)) gy_RW_add gv_RW_add w_160 rfl (by decide) (by decide) [11, 12, 13, 14] rfl rfl rfl rfl rfl _ rfl (Nat.le_of_ble_eq_true rfl) d_NS_bindNode_76 (show _ + 6000 ≤ 6000 by omega) (show _ + 36000 ≤ 36000 by omega) (fun _ _ _ _ h => by obtain ⟨_, _, h2, _⟩ := h; rw [h2]; exact Nat.le_of_ble_eq_true rfl) (fun v w dc_3 ds_3 hp => ?_)
    obtain ⟨sp_3, rfl, rfl, spk_3, f_3⟩ := hp
    refine g_wsP (nsO x g kp pa la s n te sp ++ glW E g gc ++ rowW E la lac ++ scW E s sc ++ rowW E sp sp_3) rfl rfl ?_
    obtain ⟨d1, d2, d3, d4, d5⟩ := f_3
    obtain ⟨⟨t1, t2, t3, t4⟩, -⟩ := id spk_3
    refine g_iconst (pc := 79) hX d_NS_bindNode_79 ?_
    exact g_zret (pc := 80) hX hE (by first | exact Or.inl rfl | exact Or.inr rfl | exact bZ_01 _) d_NS_bindNode_80 (show _ ≤ 6000 by omega) (show _ ≤ 36000 by omega) ⟨sp_3, 1, rfl, rfl, spk_3, Or.inl ⟨_, by unfold bN; rw [if_neg (by omega), if_pos (by omega), hkc], rfl, d1, by rw [Nat.zero_add, Nat.zero_add]; exact ⟨d3, d4, d5⟩⟩⟩
  by_cases e_3 : rF lac k = 3
  · have hkc : rF lac k = 3 := e_3
    refine g_tsw (pc := 19) (tgt := 67) (off := 48) hX d_NS_bindNode_19 (by omega) (by omega) (by omega) (by rw [hkc]; rfl) (by decide) ?_
    refine g_aload_n (pc := 67) hX 0 d_NS_bindNode_67 rfl rfl ?_
    refine g_get (pc := 68) hX f_NS_46 0 rfl rfl d_NS_bindNode_68 ?_
    refine g_iload_n (pc := 71) hX 2 d_NS_bindNode_71 rfl rfl ?_
    refine g_lload_n (pc := 72) hX 3 d_NS_bindNode_72 rfl rfl ?_
    refine g_lS (pc := 73) hX (c_NM_firstFour l E _ (by omega) (by omega)) gy_NM_firstFour w_294 w_293 rfl (by decide) (by decide) [] rfl rfl _ rfl (Nat.le_of_ble_eq_true rfl) d_NS_bindNode_73 (show _ + 0 ≤ 6000 by omega) (show _ + 0 ≤ 36000 by omega) ?_
    refine g_callV (pc := 76) hX (c_RW_add l E sp spc spk _ (by omega) _ (by omega) (by omega)) gy_RW_add gv_RW_add w_160 rfl (by decide) (by decide) [11, 12, 13, 14] rfl rfl rfl rfl rfl _ rfl (Nat.le_of_ble_eq_true rfl) d_NS_bindNode_76 (show _ + 6000 ≤ 6000 by omega) (show _ + 36000 ≤ 36000 by omega) (fun _ _ _ _ h => by obtain ⟨_, _, h2, _⟩ := h; rw [h2]; exact Nat.le_of_ble_eq_true rfl) (fun v w dc_4 ds_4 hp => ?_)
    obtain ⟨sp_4, rfl, rfl, spk_4, f_4⟩ := hp
    refine g_wsP (nsO x g kp pa la s n te sp ++ glW E g gc ++ rowW E la lac ++ scW E s sc ++ rowW E sp sp_4) rfl rfl ?_
    obtain ⟨d1, d2, d3, d4, d5⟩ := f_4
    obtain ⟨⟨t1, t2, t3, t4⟩, -⟩ := id spk_4
    refine g_iconst (pc := 79) hX d_NS_bindNode_79 ?_
    exact g_zret (pc := 80) hX hE (by first | exact Or.inl rfl | exact Or.inr rfl | exact bZ_01 _) d_NS_bindNode_80 (show _ ≤ 6000 by omega) (show _ ≤ 36000 by omega) ⟨sp_4, 1, rfl, rfl, spk_4, Or.inl ⟨_, by unfold bN; rw [if_neg (by omega), if_pos (by omega), hkc], rfl, d1, by rw [Nat.zero_add, Nat.zero_add]; exact ⟨d3, d4, d5⟩⟩⟩
  by_cases e_4 : rF lac k = 4
  · have hkc : rF lac k = 4 := e_4
    refine g_tsw (pc := 19) (tgt := 92) (off := 73) hX d_NS_bindNode_19 (by omega) (by omega) (by omega) (by rw [hkc]; rfl) (by decide) ?_
    refine g_aload_n (pc := 92) hX 0 d_NS_bindNode_92 rfl rfl ?_
    refine g_get (pc := 93) hX f_NS_46 0 rfl rfl d_NS_bindNode_93 ?_
    refine g_iload_n (pc := 96) hX 2 d_NS_bindNode_96 rfl rfl ?_
    refine g_lload_n (pc := 97) hX 3 d_NS_bindNode_97 rfl rfl ?_
    refine g_callV (pc := 98) hX (c_RW_add l E sp spc spk _ (by omega) _ (by omega) (by omega)) gy_RW_add gv_RW_add w_160 rfl (by decide) (by decide) [11, 12, 13, 14] rfl rfl rfl rfl rfl _ rfl (Nat.le_of_ble_eq_true rfl) d_NS_bindNode_98 (show _ + 6000 ≤ 6000 by omega) (show _ + 36000 ≤ 36000 by omega) (fun _ _ _ _ h => by obtain ⟨_, _, h2, _⟩ := h; rw [h2]; exact Nat.le_of_ble_eq_true rfl) (fun v w dc_5 ds_5 hp => ?_)
    obtain ⟨sp_5, rfl, rfl, spk_5, f_5⟩ := hp
    refine g_wsP (nsO x g kp pa la s n te sp ++ glW E g gc ++ rowW E la lac ++ scW E s sc ++ rowW E sp sp_5) rfl rfl ?_
    obtain ⟨d1, d2, d3, d4, d5⟩ := f_5
    obtain ⟨⟨t1, t2, t3, t4⟩, -⟩ := id spk_5
    refine g_iconst (pc := 101) hX d_NS_bindNode_101 ?_
    exact g_zret (pc := 102) hX hE (by first | exact Or.inl rfl | exact Or.inr rfl | exact bZ_01 _) d_NS_bindNode_102 (show _ ≤ 6000 by omega) (show _ ≤ 36000 by omega) ⟨sp_5, 1, rfl, rfl, spk_5, Or.inl ⟨_, by unfold bN; rw [if_neg (by omega), if_neg (by omega), if_neg (by omega), hkc], rfl, d1, by rw [Nat.zero_add, Nat.zero_add]; exact ⟨d3, d4, d5⟩⟩⟩
  by_cases e_5 : rF lac k = 5
  · have hkc : rF lac k = 5 := e_5
    refine g_tsw (pc := 19) (tgt := 92) (off := 73) hX d_NS_bindNode_19 (by omega) (by omega) (by omega) (by rw [hkc]; rfl) (by decide) ?_
    refine g_aload_n (pc := 92) hX 0 d_NS_bindNode_92 rfl rfl ?_
    refine g_get (pc := 93) hX f_NS_46 0 rfl rfl d_NS_bindNode_93 ?_
    refine g_iload_n (pc := 96) hX 2 d_NS_bindNode_96 rfl rfl ?_
    refine g_lload_n (pc := 97) hX 3 d_NS_bindNode_97 rfl rfl ?_
    refine g_callV (pc := 98) hX (c_RW_add l E sp spc spk _ (by omega) _ (by omega) (by omega)) gy_RW_add gv_RW_add w_160 rfl (by decide) (by decide) [11, 12, 13, 14] rfl rfl rfl rfl rfl _ rfl (Nat.le_of_ble_eq_true rfl) d_NS_bindNode_98 (show _ + 6000 ≤ 6000 by omega) (show _ + 36000 ≤ 36000 by omega) (fun _ _ _ _ h => by obtain ⟨_, _, h2, _⟩ := h; rw [h2]; exact Nat.le_of_ble_eq_true rfl) (fun v w dc_6 ds_6 hp => ?_)
    obtain ⟨sp_6, rfl, rfl, spk_6, f_6⟩ := hp
    refine g_wsP (nsO x g kp pa la s n te sp ++ glW E g gc ++ rowW E la lac ++ scW E s sc ++ rowW E sp sp_6) rfl rfl ?_
    obtain ⟨d1, d2, d3, d4, d5⟩ := f_6
    obtain ⟨⟨t1, t2, t3, t4⟩, -⟩ := id spk_6
    refine g_iconst (pc := 101) hX d_NS_bindNode_101 ?_
    exact g_zret (pc := 102) hX hE (by first | exact Or.inl rfl | exact Or.inr rfl | exact bZ_01 _) d_NS_bindNode_102 (show _ ≤ 6000 by omega) (show _ ≤ 36000 by omega) ⟨sp_6, 1, rfl, rfl, spk_6, Or.inl ⟨_, by unfold bN; rw [if_neg (by omega), if_neg (by omega), if_neg (by omega), hkc], rfl, d1, by rw [Nat.zero_add, Nat.zero_add]; exact ⟨d3, d4, d5⟩⟩⟩
  by_cases e_6 : rF lac k = 6
  · have hkc : rF lac k = 6 := e_6
    refine g_tsw (pc := 19) (tgt := 81) (off := 62) hX d_NS_bindNode_19 (by omega) (by omega) (by omega) (by rw [hkc]; rfl) (by decide) ?_
    refine g_aload_n (pc := 81) hX 0 d_NS_bindNode_81 rfl rfl ?_
    refine g_get (pc := 82) hX f_NS_46 0 rfl rfl d_NS_bindNode_82 ?_
    refine g_iconst (pc := 85) hX d_NS_bindNode_85 ?_
    refine g_lconst (pc := 86) hX 0 d_NS_bindNode_86 (by decide) ?_
    refine g_callV (pc := 87) hX (c_RW_add l E sp spc spk _ (by omega) _ (by omega) (by omega)) gy_RW_add gv_RW_add w_160 rfl (by decide) (by decide) [11, 12, 13, 14] rfl rfl rfl rfl rfl _ rfl (Nat.le_of_ble_eq_true rfl) d_NS_bindNode_87 (show _ + 6000 ≤ 6000 by omega) (show _ + 36000 ≤ 36000 by omega) (fun _ _ _ _ h => by obtain ⟨_, _, h2, _⟩ := h; rw [h2]; exact Nat.le_of_ble_eq_true rfl) (fun v w dc_7 ds_7 hp => ?_)
    obtain ⟨sp_7, rfl, rfl, spk_7, f_7⟩ := hp
    refine g_wsP (nsO x g kp pa la s n te sp ++ glW E g gc ++ rowW E la lac ++ scW E s sc ++ rowW E sp sp_7) rfl rfl ?_
    obtain ⟨d1, d2, d3, d4, d5⟩ := f_7
    obtain ⟨⟨t1, t2, t3, t4⟩, -⟩ := id spk_7
    refine g_iconst (pc := 90) hX d_NS_bindNode_90 ?_
    exact g_zret (pc := 91) hX hE (by first | exact Or.inl rfl | exact Or.inr rfl | exact bZ_01 _) d_NS_bindNode_91 (show _ ≤ 6000 by omega) (show _ ≤ 36000 by omega) ⟨sp_7, 1, rfl, rfl, spk_7, Or.inl ⟨_, by unfold bN; rw [if_neg (by omega), if_neg (by omega), if_pos (by omega)], rfl, d1, by rw [Nat.zero_add, Nat.zero_add]; exact ⟨d3, d4, d5⟩⟩⟩
  exact absurd hf0 (by omega)
