abbrev rm_NS_takeSpare : Room := { frames := 5, cells := 0, slots := 0, locals := 106 }
set_option maxHeartbeats 4000000 in
set_option maxRecDepth 100000 in
theorem c_NS_takeSpare (l : Launch) (E : gE) (x g kp pa la s n te sp : Nat) (tec : RowT) (tek : rowOK tec) (spc : RowT) (spk : rowOK spc) : Ct l E y_NS_takeSpare b_NS_takeSpare 2 none rm_NS_takeSpare [.ref x] (nsO x g kp pa la s n te sp ++ rowW E te tec ++ rowW E sp spc) (fun v w dc ds => ∃ ρ, v = none ∧ w = nsO x g kp pa la s n sp te ++ rowW E te tec ++ rowW E sp ρ ∧ rowOK ρ ∧ (newT ρ spc ∧ dc = 0 ∧ ds = 0)) := by
  refine g_start (by decide) (Nat.le_of_ble_eq_true rfl) (fun X hX hE hin => ?_)
  refine g_aload_n (pc := 0) hX 0 d_NS_takeSpare_0 rfl rfl ?_
  refine g_get (pc := 1) hX f_NS_43 0 rfl rfl d_NS_takeSpare_1 ?_
  refine g_astore_n (pc := 4) hX 1 d_NS_takeSpare_4 rfl (by decide) ?_
  refine g_aload_n (pc := 5) hX 0 d_NS_takeSpare_5 rfl rfl ?_
  refine g_aload_n (pc := 6) hX 0 d_NS_takeSpare_6 rfl rfl ?_
  refine g_get (pc := 7) hX f_NS_46 0 rfl rfl d_NS_takeSpare_7 ?_
  refine g_put (pc := 10) hX f_NS_43 gt_NS 0 rfl rfl rfl rfl (Nat.le_of_ble_eq_true rfl) d_NS_takeSpare_10 ?_
  refine g_aload_n (pc := 13) hX 0 d_NS_takeSpare_13 rfl rfl ?_
  refine g_aload_n (pc := 14) hX 1 d_NS_takeSpare_14 rfl rfl ?_
  refine g_put (pc := 15) hX f_NS_46 gt_NS 0 rfl rfl rfl rfl (Nat.le_of_ble_eq_true rfl) d_NS_takeSpare_15 ?_
  refine g_aload_n (pc := 18) hX 0 d_NS_takeSpare_18 rfl rfl ?_
  refine g_get (pc := 19) hX f_NS_43 0 rfl rfl d_NS_takeSpare_19 ?_
  refine g_callV (pc := 22) hX (c_RW_measure l E sp spc spk) gy_RW_measure gv_RW_measure w_210 rfl (by decide) (by decide) [5, 6, 7, 8] rfl rfl rfl rfl rfl _ rfl (Nat.le_of_ble_eq_true rfl) d_NS_takeSpare_22 (by decide) (by decide) (fun _ _ _ _ h => by obtain ⟨_, _, h2, _⟩ := h; rw [h2]; exact Nat.le_of_ble_eq_true rfl) (fun v w dc_1 ds_1 hp => ?_)
  obtain ⟨sp_1, rfl, rfl, spk_1, f_1_1, f_1_2, f_1_3, f_1_4, f_1_5, rfl, rfl⟩ := hp
  refine g_wsP (nsO x g kp pa la s n sp te ++ rowW E te tec ++ rowW E sp sp_1) rfl rfl ?_
  refine g_pop (pc := 25) hX d_NS_takeSpare_25 rfl ?_
  exact g_vret (pc := 26) hX hE d_NS_takeSpare_26 (by decide) (by decide) ⟨sp_1, rfl, rfl, spk_1, ⟨f_1_1, f_1_2, f_1_3, f_1_4, fun q => by obtain ⟨σ, h1, h2, h3⟩ := f_1_5 q; exact ⟨σ, by rw [f_1_1, f_1_3]; exact h1, by rw [h2, f_1_1], by rw [f_1_1]; exact q.1, fun j hj => h3 j (by omega)⟩⟩, rfl, rfl⟩

abbrev rm_NS_uses : Room := { frames := 5, cells := 6000, slots := 36000, locals := 109 }
set_option maxHeartbeats 4000000 in
set_option maxRecDepth 100000 in
theorem c_NS_uses (l : Launch) (E : gE) (x g kp pa la s n te sp : Nat) (tec : RowT) (tek : rowOK tec) (sc : ScT) (sk : scOK sc) (σ : Nat → Nat) (hte : rN tec = 0 ∨ mea tec σ) (k : Int) (hk : gin k) : Ct l E y_NS_uses b_NS_uses 2 (some .int) rm_NS_uses [.ref x, .int (iI k)] (nsO x g kp pa la s n te sp ++ rowW E te tec ++ scW E s sc) (fun v w dc ds => ∃ ς, v = some (.int (iI (usesR tec σ k))) ∧ w = nsO x g kp pa la s n te sp ++ rowW E te tec ++ scW E s ς ∧ scOK ς ∧ sGrow sc ς dc ds) := by
  obtain ⟨⟨te1, te2, te3, te4⟩, tef, teg, teh⟩ := id tek
  have k1 := rK_in tek k
  refine g_start (by decide) (Nat.le_of_ble_eq_true rfl) (fun X hX hE hin => ?_)
  refine g_aload_n (pc := 0) hX 0 d_NS_uses_0 rfl rfl ?_
  refine g_get (pc := 1) hX f_NS_43 0 rfl rfl d_NS_uses_1 ?_
  refine g_iload_n (pc := 4) hX 1 d_NS_uses_4 rfl rfl ?_
  refine g_iV (pc := 5) hX (c_RW_has l E te tec tek _ (by omega)) gy_RW_has gv_RW_has w_308 rfl (by decide) (by decide) [1, 2, 3, 4] rfl rfl rfl rfl rfl _ rfl (Nat.le_of_ble_eq_true rfl) d_NS_uses_5 (show _ + 0 ≤ 6000 by omega) (show _ + 0 ≤ 36000 by omega) ?_
  refine g_beq (pc := 8) (tgt := 25) hX d_NS_uses_8 (by decide) (fun c_1 => ?_) (fun c_1 => ?_)
  · refine g_iconst (pc := 25) hX d_NS_uses_25 ?_
    exact g_iret (pc := 26) hX hE d_NS_uses_26 (show _ ≤ 6000 by omega) (show _ ≤ 36000 by omega) ⟨sc, by rw [usesR, if_neg (by first | (intro q; exact c_1 ⟨q.1, q.2.1⟩) | (intro q; exact c_2 q.2.2))], rfl, sk, sGrow.rf sc⟩
  · obtain ⟨kn, rfl⟩ : ∃ kn : Nat, k = kn := ⟨k.toNat, by omega⟩
    have hm : mea tec σ := by
      rcases hte with h | h
      · omega
      · exact h
    have q1 : rK tec (kn : Int) = rF tec kn := rK_t (by omega)
    refine g_aload_n (pc := 11) hX 0 d_NS_uses_11 rfl rfl ?_
    refine g_get (pc := 12) hX f_NS_43 0 rfl rfl d_NS_uses_12 ?_
    refine g_iload_n (pc := 15) hX 1 d_NS_uses_15 rfl rfl ?_
    refine g_iV (pc := 16) hX (c_RW_kind l E te tec tek _ (by omega)) gy_RW_kind gv_RW_kind w_273 rfl (by decide) (by decide) [1, 2, 3, 4] rfl rfl rfl rfl rfl _ rfl (Nat.le_of_ble_eq_true rfl) d_NS_uses_16 (show _ + 0 ≤ 6000 by omega) (show _ + 0 ≤ 36000 by omega) ?_
    rw [q1]
    refine g_iS (pc := 19) hX (c_NS_isBinder l E _ (by omega)) gy_NS_isBinder w_218 w_217 rfl (by decide) (by decide) [] rfl rfl _ rfl (Nat.le_of_ble_eq_true rfl) d_NS_uses_19 (show _ + 0 ≤ 6000 by omega) (show _ + 0 ≤ 36000 by omega) ?_
    refine g_bne (pc := 22) (tgt := 27) hX d_NS_uses_22 (by decide) (fun c_2 => ?_) (fun c_2 => ?_)
    · refine g_aload_n (pc := 27) hX 0 d_NS_uses_27 rfl rfl ?_
      refine g_get (pc := 28) hX f_NS_32 0 rfl rfl d_NS_uses_28 ?_
      refine g_aload_n (pc := 31) hX 0 d_NS_uses_31 rfl rfl ?_
      refine g_get (pc := 32) hX f_NS_43 0 rfl rfl d_NS_uses_32 ?_
      refine g_callV (pc := 35) hX (c_SC_read l E s sc sk te tec tek σ hm.1 hm.2.1 hm.2.2.1 hm.2.2.2) gy_SC_read gv_SC_read w_236 rfl (by decide) (by decide) [5, 6, 7, 8, 1, 2, 3, 4] rfl rfl rfl rfl rfl _ rfl (Nat.le_of_ble_eq_true rfl) d_NS_uses_35 (show _ + 6000 ≤ 6000 by omega) (show _ + 36000 ≤ 36000 by omega) (fun _ _ _ _ h => by obtain ⟨_, _, h2, _⟩ := h; rw [h2]; exact Nat.le_of_ble_eq_true rfl) (fun v w dc_3 ds_3 hp => ?_)
      obtain ⟨s_3, rfl, rfl, sk_3, f_3⟩ := hp
      refine g_wsP (nsO x g kp pa la s n te sp ++ rowW E te tec ++ scW E s s_3) rfl rfl ?_
      obtain ⟨b1, b2, b3⟩ := f_3
      have hs : scFor s_3 tec := ⟨b1, b2⟩
      obtain ⟨b4, b5, b6⟩ := id b3
      obtain ⟨⟨m1, m2, m3, m4⟩, -⟩ := id sk_3
      refine g_aload_n (pc := 38) hX 0 d_NS_uses_38 rfl rfl ?_
      refine g_iload_n (pc := 39) hX 1 d_NS_uses_39 rfl rfl ?_
      refine g_iV (pc := 40) hX (c_NS_countUses l E x g kp pa la s n te sp tec tek s_3 sk_3 σ hm hs kn ⟨by omega, by omega⟩) gy_NS_countUses gv_NS_countUses w_315 rfl (by decide) (by decide) [0, 1, 2, 3, 4, 5, 6, 7, 8] rfl rfl rfl rfl rfl _ rfl (Nat.le_of_ble_eq_true rfl) d_NS_uses_40 (show _ + 0 ≤ 6000 by omega) (show _ + 0 ≤ 36000 by omega) ?_
      exact g_iret (pc := 43) hX hE d_NS_uses_43 (show _ ≤ 6000 by omega) (show _ ≤ 36000 by omega) ⟨s_3, by rw [usesR, if_pos (show _ from ⟨by omega, by omega, c_2⟩)]; rfl, rfl, sk_3, by rw [Nat.zero_add, Nat.zero_add]; exact b3⟩
    · refine g_iconst (pc := 25) hX d_NS_uses_25 ?_
      exact g_iret (pc := 26) hX hE d_NS_uses_26 (show _ ≤ 6000 by omega) (show _ ≤ 36000 by omega) ⟨sc, by rw [usesR, if_neg (by first | (intro q; exact c_1 ⟨q.1, q.2.1⟩) | (intro q; exact c_2 q.2.2))], rfl, sk, sGrow.rf sc⟩
