abbrev rm_NS_nodes : Room := { frames := 1, cells := 0, slots := 0, locals := 20 }
set_option maxHeartbeats 4000000 in
set_option maxRecDepth 100000 in
theorem c_NS_nodes (l : Launch) (E : gE) (x g kp pa la s n te sp : Nat) (tec : RowT) (tek : rowOK tec) : CtI l E y_NS_nodes b_NS_nodes 1 (some .int) rm_NS_nodes [.ref x] (nsO x g kp pa la s n te sp ++ rowW E te tec) (rN tec) := by
  refine g_start (by decide) (Nat.le_of_ble_eq_true rfl) (fun X hX hE hin => ?_)
  refine g_aload_n (pc := 0) hX 0 d_NS_nodes_0 rfl rfl ?_
  refine g_get (pc := 1) hX f_NS_43 0 rfl rfl d_NS_nodes_1 ?_
  refine g_iV (pc := 4) hX (c_RW_count l E te tec tek) gy_RW_count gv_RW_count w_156 rfl (by decide) (by decide) [1, 2, 3, 4] rfl rfl rfl rfl rfl _ rfl (Nat.le_of_ble_eq_true rfl) d_NS_nodes_4 (by decide) (by decide) ?_
  exact g_iret (pc := 7) hX hE d_NS_nodes_7 (by decide) (by decide) ⟨rfl, rfl, rfl, rfl⟩

abbrev rm_NS_drop : Room := { frames := 1, cells := 0, slots := 0, locals := 20 }
set_option maxHeartbeats 4000000 in
set_option maxRecDepth 100000 in
theorem c_NS_drop (l : Launch) (E : gE) (x g kp pa la s n te sp : Nat) (lac : RowT) (lak : rowOK lac) : Ct l E y_NS_drop b_NS_drop 2 (some .int) rm_NS_drop [.ref x] (nsO x g kp pa la s n te sp ++ rowW E la lac) (fun v w dc ds => ∃ ρ, v = some (.int (iI (rN lac))) ∧ w = nsO x g kp pa la s n te sp ++ rowW E la ρ ∧ rowOK ρ ∧ (rN ρ = 0 ∧ rC ρ = rC lac ∧ dc = 0 ∧ ds = 0)) := by
  refine g_start (by decide) (Nat.le_of_ble_eq_true rfl) (fun X hX hE hin => ?_)
  refine g_aload_n (pc := 0) hX 0 d_NS_drop_0 rfl rfl ?_
  refine g_get (pc := 1) hX f_NS_26 0 rfl rfl d_NS_drop_1 ?_
  refine g_iV (pc := 4) hX (c_RW_count l E la lac lak) gy_RW_count gv_RW_count w_156 rfl (by decide) (by decide) [1, 2, 3, 4] rfl rfl rfl rfl rfl _ rfl (Nat.le_of_ble_eq_true rfl) d_NS_drop_4 (by decide) (by decide) ?_
  refine g_istore_n (pc := 7) hX 1 d_NS_drop_7 rfl (by decide) ?_
  refine g_aload_n (pc := 8) hX 0 d_NS_drop_8 rfl rfl ?_
  refine g_get (pc := 9) hX f_NS_26 0 rfl rfl d_NS_drop_9 ?_
  refine g_callV (pc := 12) hX (c_RW_clear l E la lac lak) gy_RW_clear gv_RW_clear w_202 rfl (by decide) (by decide) [1, 2, 3, 4] rfl rfl rfl rfl rfl _ rfl (Nat.le_of_ble_eq_true rfl) d_NS_drop_12 (by decide) (by decide) (fun _ _ _ _ h => by obtain ⟨_, _, h2, _⟩ := h; rw [h2]; exact Nat.le_of_ble_eq_true rfl) (fun v w dc_1 ds_1 hp => ?_)
  obtain ⟨la_1, rfl, rfl, lak_1, f_1_1, f_1_2, rfl, rfl⟩ := hp
  refine g_wsP (nsO x g kp pa la s n te sp ++ rowW E la la_1) rfl rfl ?_
  refine g_iload_n (pc := 15) hX 1 d_NS_drop_15 rfl rfl ?_
  exact g_iret (pc := 16) hX hE d_NS_drop_16 (by decide) (by decide) ⟨la_1, rfl, rfl, lak_1, f_1_1, f_1_2, rfl, rfl⟩

abbrev rm_NS_node : Room := { frames := 2, cells := 0, slots := 0, locals := 42 }
set_option maxHeartbeats 4000000 in
set_option maxRecDepth 100000 in
theorem c_NS_node (l : Launch) (E : gE) (x g kp pa la s n te sp : Nat) (tec : RowT) (tek : rowOK tec) (k : Int) (hk : gin k) (w : Int) (hw : gin w) : CtL l E y_NS_node b_NS_node 3 (some .long) rm_NS_node [.ref x, .int (iI k), .int (iI w)] (nsO x g kp pa la s n te sp ++ rowW E te tec) (nodeR tec k w) := by
  have k1 := rK_in tek k
  have k2 := rS_in tek k
  refine g_start (by decide) (Nat.le_of_ble_eq_true rfl) (fun X hX hE hin => ?_)
  refine g_aload_n (pc := 0) hX 0 d_NS_node_0 rfl rfl ?_
  refine g_get (pc := 1) hX f_NS_43 0 rfl rfl d_NS_node_1 ?_
  refine g_iload_n (pc := 4) hX 1 d_NS_node_4 rfl rfl ?_
  refine g_iV (pc := 5) hX (c_RW_has l E te tec tek _ (by omega)) gy_RW_has gv_RW_has w_308 rfl (by decide) (by decide) [1, 2, 3, 4] rfl rfl rfl rfl rfl _ rfl (Nat.le_of_ble_eq_true rfl) d_NS_node_5 (by decide) (by decide) ?_
  refine g_bne (pc := 8) (tgt := 15) hX d_NS_node_8 (by decide) (fun c_1 => ?_) (fun c_1 => ?_)
  · refine g_iload_n (pc := 15) hX 2 d_NS_node_15 rfl rfl ?_
    by_cases e_0 : w = 0
    · rw [e_0]
      refine g_tsw (pc := 16) (tgt := 44) hX d_NS_node_16 (by decide) (by decide) (by decide) rfl (by decide) ?_
      refine g_aload_n (pc := 44) hX 0 d_NS_node_44 rfl rfl ?_
      refine g_get (pc := 45) hX f_NS_43 0 rfl rfl d_NS_node_45 ?_
      refine g_iload_n (pc := 48) hX 1 d_NS_node_48 rfl rfl ?_
      refine g_iV (pc := 49) hX (c_RW_kind l E te tec tek _ (by omega)) gy_RW_kind gv_RW_kind w_273 rfl (by decide) (by decide) [1, 2, 3, 4] rfl rfl rfl rfl rfl _ rfl (Nat.le_of_ble_eq_true rfl) d_NS_node_49 (by decide) (by decide) ?_
      refine g_i2l (pc := 52) hX d_NS_node_52 (by omega) ?_
      exact g_lret (pc := 53) hX hE d_NS_node_53 (by decide) (by decide) ⟨by rw [rK_t c_1, nodeR, if_pos c_1, e_0, if_pos rfl], rfl, rfl, rfl⟩
    by_cases e_1 : w = 1
    · rw [e_1]
      refine g_tsw (pc := 16) (tgt := 54) hX d_NS_node_16 (by decide) (by decide) (by decide) rfl (by decide) ?_
      refine g_aload_n (pc := 54) hX 0 d_NS_node_54 rfl rfl ?_
      refine g_get (pc := 55) hX f_NS_43 0 rfl rfl d_NS_node_55 ?_
      refine g_iload_n (pc := 58) hX 1 d_NS_node_58 rfl rfl ?_
      refine g_lV (pc := 59) hX (c_RW_beside l E te tec tek _ (by omega)) gy_RW_beside gv_RW_beside w_274 rfl (by decide) (by decide) [1, 2, 3, 4] rfl rfl rfl rfl rfl _ rfl (Nat.le_of_ble_eq_true rfl) d_NS_node_59 (by decide) (by decide) ?_
      exact g_lret (pc := 62) hX hE d_NS_node_62 (by decide) (by decide) ⟨by rw [rB_t c_1, nodeR, if_pos c_1, e_1, if_neg (by decide), if_pos rfl], rfl, rfl, rfl⟩
    by_cases e_2 : w = 2
    · rw [e_2]
      refine g_tsw (pc := 16) (tgt := 63) hX d_NS_node_16 (by decide) (by decide) (by decide) rfl (by decide) ?_
      refine g_aload_n (pc := 63) hX 0 d_NS_node_63 rfl rfl ?_
      refine g_get (pc := 64) hX f_NS_43 0 rfl rfl d_NS_node_64 ?_
      refine g_iload_n (pc := 67) hX 1 d_NS_node_67 rfl rfl ?_
      refine g_iV (pc := 68) hX (c_RW_size l E te tec tek _ (by omega)) gy_RW_size gv_RW_size w_310 rfl (by decide) (by decide) [1, 2, 3, 4] rfl rfl rfl rfl rfl _ rfl (Nat.le_of_ble_eq_true rfl) d_NS_node_68 (by decide) (by decide) ?_
      refine g_i2l (pc := 71) hX d_NS_node_71 (by omega) ?_
      exact g_lret (pc := 72) hX hE d_NS_node_72 (by decide) (by decide) ⟨by rw [rS_t c_1, nodeR, if_pos c_1, e_2, if_neg (by decide), if_neg (by decide), if_pos rfl], rfl, rfl, rfl⟩
    refine g_tswO (pc := 16) (tgt := 73) hX d_NS_node_16 (by omega) (by omega) (by decide) ?_
    refine g_ldc2 (pc := 73) hX (-1) w_309 (by decide) d_NS_node_73 ?_
    exact g_lret (pc := 76) hX hE d_NS_node_76 (by decide) (by decide) ⟨by rw [nodeR, if_pos c_1, if_neg e_0, if_neg e_1, if_neg e_2], rfl, rfl, rfl⟩
  · refine g_ldc2 (pc := 11) hX (-1) w_309 (by decide) d_NS_node_11 ?_
    exact g_lret (pc := 14) hX hE d_NS_node_14 (by decide) (by decide) ⟨by rw [nodeR, if_neg c_1], rfl, rfl, rfl⟩

abbrev rm_NS_written : Room := { frames := 2, cells := 0, slots := 0, locals := 42 }
set_option maxHeartbeats 4000000 in
set_option maxRecDepth 100000 in
theorem c_NS_written (l : Launch) (E : gE) (x g kp pa la s n te sp : Nat) (pac : RowT) (pak : rowOK pac) (k : Int) (hk : gin k) (w : Int) (hw : gin w) : CtL l E y_NS_written b_NS_written 3 (some .long) rm_NS_written [.ref x, .int (iI k), .int (iI w)] (nsO x g kp pa la s n te sp ++ rowW E pa pac) (wrtR pac k w) := by
  have k1 := rK_in pak k
  refine g_start (by decide) (Nat.le_of_ble_eq_true rfl) (fun X hX hE hin => ?_)
  refine g_aload_n (pc := 0) hX 0 d_NS_written_0 rfl rfl ?_
  refine g_get (pc := 1) hX f_NS_23 0 rfl rfl d_NS_written_1 ?_
  refine g_iload_n (pc := 4) hX 1 d_NS_written_4 rfl rfl ?_
  refine g_iV (pc := 5) hX (c_RW_has l E pa pac pak _ (by omega)) gy_RW_has gv_RW_has w_308 rfl (by decide) (by decide) [1, 2, 3, 4] rfl rfl rfl rfl rfl _ rfl (Nat.le_of_ble_eq_true rfl) d_NS_written_5 (by decide) (by decide) ?_
  refine g_bne (pc := 8) (tgt := 15) hX d_NS_written_8 (by decide) (fun c_1 => ?_) (fun c_1 => ?_)
  · refine g_iload_n (pc := 15) hX 2 d_NS_written_15 rfl rfl ?_
    by_cases e_0 : w = 0
    · rw [e_0]
      refine g_lsw (pc := 16) (tgt := 44) hX d_NS_written_16 (by decide) (by decide) rfl (by decide) ?_
      refine g_aload_n (pc := 44) hX 0 d_NS_written_44 rfl rfl ?_
      refine g_get (pc := 45) hX f_NS_23 0 rfl rfl d_NS_written_45 ?_
      refine g_iload_n (pc := 48) hX 1 d_NS_written_48 rfl rfl ?_
      refine g_iV (pc := 49) hX (c_RW_kind l E pa pac pak _ (by omega)) gy_RW_kind gv_RW_kind w_273 rfl (by decide) (by decide) [1, 2, 3, 4] rfl rfl rfl rfl rfl _ rfl (Nat.le_of_ble_eq_true rfl) d_NS_written_49 (by decide) (by decide) ?_
      refine g_i2l (pc := 52) hX d_NS_written_52 (by omega) ?_
      exact g_lret (pc := 53) hX hE d_NS_written_53 (by decide) (by decide) ⟨by rw [rK_t c_1, wrtR, if_pos c_1, e_0, if_pos rfl], rfl, rfl, rfl⟩
    by_cases e_1 : w = 1
    · rw [e_1]
      refine g_lsw (pc := 16) (tgt := 54) hX d_NS_written_16 (by decide) (by decide) rfl (by decide) ?_
      refine g_aload_n (pc := 54) hX 0 d_NS_written_54 rfl rfl ?_
      refine g_get (pc := 55) hX f_NS_23 0 rfl rfl d_NS_written_55 ?_
      refine g_iload_n (pc := 58) hX 1 d_NS_written_58 rfl rfl ?_
      refine g_lV (pc := 59) hX (c_RW_beside l E pa pac pak _ (by omega)) gy_RW_beside gv_RW_beside w_274 rfl (by decide) (by decide) [1, 2, 3, 4] rfl rfl rfl rfl rfl _ rfl (Nat.le_of_ble_eq_true rfl) d_NS_written_59 (by decide) (by decide) ?_
      exact g_lret (pc := 62) hX hE d_NS_written_62 (by decide) (by decide) ⟨by rw [rB_t c_1, wrtR, if_pos c_1, e_1, if_neg (by decide), if_pos rfl], rfl, rfl, rfl⟩
    refine g_lsw (pc := 16) (tgt := 63) hX d_NS_written_16 (by decide) (by omega) (by simp [Op.lookupswitch.offset_cons, Op.lookupswitch.offset, Ne.symm e_0, e_0, Ne.symm e_1, e_1]; rfl) (by decide) ?_
    refine g_ldc2 (pc := 63) hX (-1) w_309 (by decide) d_NS_written_63 ?_
    exact g_lret (pc := 66) hX hE d_NS_written_66 (by decide) (by decide) ⟨by rw [wrtR, if_pos c_1, if_neg e_0, if_neg e_1], rfl, rfl, rfl⟩
  · refine g_ldc2 (pc := 11) hX (-1) w_309 (by decide) d_NS_written_11 ?_
    exact g_lret (pc := 14) hX hE d_NS_written_14 (by decide) (by decide) ⟨by rw [wrtR, if_neg c_1], rfl, rfl, rfl⟩

abbrev rm_NS_again : Room := { frames := 4, cells := 6000, slots := 36000, locals := 91 }
set_option maxHeartbeats 4000000 in
set_option maxRecDepth 100000 in
theorem c_NS_again (l : Launch) (E : gE) (x g kp pa la s n te sp : Nat) (lac : RowT) (lak : rowOK lac) (pac : RowT) (pak : rowOK pac) : Ct l E y_NS_again b_NS_again 1 (some .int) rm_NS_again [.ref x] (nsO x g kp pa la s n te sp ++ rowW E la lac ++ rowW E pa pac) (fun v w dc ds => ∃ ρ, v = some (.int (iI (rN pac))) ∧ w = nsO x g kp pa la s n te sp ++ rowW E la ρ ++ rowW E pa pac ∧ rowOK ρ ∧ (rL ρ = rL pac ∧ rN ρ = rN pac ∧ rGrow lac ρ dc ds)) := by
  obtain ⟨⟨la1, la2, la3, la4⟩, laf, lag, lah⟩ := id lak
  refine g_start (by decide) (Nat.le_of_ble_eq_true rfl) (fun X hX hE hin => ?_)
  refine g_aload_n (pc := 0) hX 0 d_NS_again_0 rfl rfl ?_
  refine g_get (pc := 1) hX f_NS_26 0 rfl rfl d_NS_again_1 ?_
  refine g_aload_n (pc := 4) hX 0 d_NS_again_4 rfl rfl ?_
  refine g_get (pc := 5) hX f_NS_23 0 rfl rfl d_NS_again_5 ?_
  refine g_callV (pc := 8) hX (c_RW_become l E la lac lak pa pac pak) gy_RW_become gv_RW_become w_440 rfl (by decide) (by decide) [1, 2, 3, 4, 5, 6, 7, 8] rfl rfl rfl rfl rfl _ rfl (Nat.le_of_ble_eq_true rfl) d_NS_again_8 (show _ + 6000 ≤ 6000 by omega) (show _ + 36000 ≤ 36000 by omega) (fun _ _ _ _ h => by obtain ⟨_, _, h2, _⟩ := h; rw [h2]; exact Nat.le_of_ble_eq_true rfl) (fun v w dc_1 ds_1 hp => ?_)
  obtain ⟨la_1, rfl, rfl, lak_1, f_1⟩ := hp
  refine g_wsP (nsO x g kp pa la s n te sp ++ rowW E la la_1 ++ rowW E pa pac) rfl rfl ?_
  obtain ⟨b1, b2, b3, b4, b5⟩ := id f_1
  obtain ⟨⟨m1, m2, m3, m4⟩, -⟩ := id lak_1
  refine g_aload_n (pc := 11) hX 0 d_NS_again_11 rfl rfl ?_
  refine g_get (pc := 12) hX f_NS_26 0 rfl rfl d_NS_again_12 ?_
  refine g_iV (pc := 15) hX (c_RW_count l E la la_1 lak_1) gy_RW_count gv_RW_count w_156 rfl (by decide) (by decide) [1, 2, 3, 4] rfl rfl rfl rfl rfl _ rfl (Nat.le_of_ble_eq_true rfl) d_NS_again_15 (show _ + 0 ≤ 6000 by omega) (show _ + 0 ≤ 36000 by omega) ?_
  exact g_iret (pc := 18) hX hE d_NS_again_18 (show _ ≤ 6000 by omega) (show _ ≤ 36000 by omega) ⟨la_1, by rw [b2], rfl, lak_1, b1, b2, by rw [Nat.zero_add, Nat.zero_add]; exact ⟨b3, b4, b5⟩⟩

abbrev rm_NS_keep : Room := { frames := 4, cells := 6000, slots := 36000, locals := 91 }
set_option maxHeartbeats 4000000 in
set_option maxRecDepth 100000 in
theorem c_NS_keep (l : Launch) (E : gE) (x g kp pa la s n te sp : Nat) (kpc : RowT) (kpk : rowOK kpc) (tec : RowT) (tek : rowOK tec) : Ct l E y_NS_keep b_NS_keep 1 (some .int) rm_NS_keep [.ref x] (nsO x g kp pa la s n te sp ++ rowW E kp kpc ++ rowW E te tec) (fun v w dc ds => ∃ ρ, v = some (.int (iI (rN tec))) ∧ w = nsO x g kp pa la s n te sp ++ rowW E kp ρ ++ rowW E te tec ∧ rowOK ρ ∧ (rL ρ = rL tec ∧ rN ρ = rN tec ∧ rGrow kpc ρ dc ds)) := by
  obtain ⟨⟨kp1, kp2, kp3, kp4⟩, kpf, kpg, kph⟩ := id kpk
  refine g_start (by decide) (Nat.le_of_ble_eq_true rfl) (fun X hX hE hin => ?_)
  refine g_aload_n (pc := 0) hX 0 d_NS_keep_0 rfl rfl ?_
  refine g_get (pc := 1) hX f_NS_19 0 rfl rfl d_NS_keep_1 ?_
  refine g_aload_n (pc := 4) hX 0 d_NS_keep_4 rfl rfl ?_
  refine g_get (pc := 5) hX f_NS_43 0 rfl rfl d_NS_keep_5 ?_
  refine g_callV (pc := 8) hX (c_RW_become l E kp kpc kpk te tec tek) gy_RW_become gv_RW_become w_440 rfl (by decide) (by decide) [1, 2, 3, 4, 5, 6, 7, 8] rfl rfl rfl rfl rfl _ rfl (Nat.le_of_ble_eq_true rfl) d_NS_keep_8 (show _ + 6000 ≤ 6000 by omega) (show _ + 36000 ≤ 36000 by omega) (fun _ _ _ _ h => by obtain ⟨_, _, h2, _⟩ := h; rw [h2]; exact Nat.le_of_ble_eq_true rfl) (fun v w dc_1 ds_1 hp => ?_)
  obtain ⟨kp_1, rfl, rfl, kpk_1, f_1⟩ := hp
  refine g_wsP (nsO x g kp pa la s n te sp ++ rowW E kp kp_1 ++ rowW E te tec) rfl rfl ?_
  obtain ⟨b1, b2, b3, b4, b5⟩ := id f_1
  obtain ⟨⟨m1, m2, m3, m4⟩, -⟩ := id kpk_1
  refine g_aload_n (pc := 11) hX 0 d_NS_keep_11 rfl rfl ?_
  refine g_get (pc := 12) hX f_NS_19 0 rfl rfl d_NS_keep_12 ?_
  refine g_iV (pc := 15) hX (c_RW_count l E kp kp_1 kpk_1) gy_RW_count gv_RW_count w_156 rfl (by decide) (by decide) [1, 2, 3, 4] rfl rfl rfl rfl rfl _ rfl (Nat.le_of_ble_eq_true rfl) d_NS_keep_15 (show _ + 0 ≤ 6000 by omega) (show _ + 0 ≤ 36000 by omega) ?_
  exact g_iret (pc := 18) hX hE d_NS_keep_18 (show _ ≤ 6000 by omega) (show _ ≤ 36000 by omega) ⟨kp_1, by rw [b2], rfl, kpk_1, b1, b2, by rw [Nat.zero_add, Nat.zero_add]; exact ⟨b3, b4, b5⟩⟩
