abbrev rm_RW_clear : Room := { frames := 0, cells := 0, slots := 0, locals := 0 }
set_option maxHeartbeats 4000000 in
set_option maxRecDepth 100000 in
theorem c_RW_clear (l : Launch) (E : gE) (r : Nat) (rc : RowT) (rk : rowOK rc) : Ct l E y_RW_clear b_RW_clear 1 none rm_RW_clear [.ref r] (rowW E r rc) (fun v w dc ds => ∃ ρ, v = none ∧ w = rowW E r ρ ∧ rowOK ρ ∧ (rN ρ = 0 ∧ rC ρ = rC rc ∧ dc = 0 ∧ ds = 0)) := by
  obtain ⟨⟨r1, r2, r3, r4⟩, rf, rg, rh⟩ := id rk
  refine g_start (by decide) (Nat.le_of_ble_eq_true rfl) (fun X hX hE hin => ?_)
  refine g_aload_n (pc := 0) hX 0 d_RW_clear_0 rfl rfl ?_
  refine g_iconst (pc := 1) hX d_RW_clear_1 ?_
  refine g_put (pc := 2) hX f_RW_22 gt_RW 0 rfl rfl rfl rfl (Nat.le_of_ble_eq_true rfl) d_RW_clear_2 ?_
  exact g_vret (pc := 5) hX hE d_RW_clear_5 (by decide) (by decide) ⟨(rA rc, 0, rC rc, rF rc, rG rc, rH rc), rfl, rfl, rk.u (by omega) rf rg rh, rfl, rfl, rfl, rfl⟩

abbrev rm_RW_setBeside : Room := { frames := 1, cells := 0, slots := 0, locals := 21 }
set_option maxHeartbeats 4000000 in
set_option maxRecDepth 100000 in
theorem c_RW_setBeside (l : Launch) (E : gE) (r : Nat) (rc : RowT) (rk : rowOK rc) (k : Int) (hk : gin k) (b : Int) (hb : gil b) (h0 : 0 ≤ k ∧ k < rN rc) : Ct l E y_RW_setBeside b_RW_setBeside 4 none rm_RW_setBeside [.ref r, .int (iI k), .long (lI b)] (rowW E r rc) (fun v w dc ds => ∃ ρ, v = none ∧ w = rowW E r ρ ∧ rowOK ρ ∧ (ρ = (rA rc, rN rc, rC rc, rF rc, uZ (rG rc) k.toNat b, rH rc) ∧ dc = 0 ∧ ds = 0)) := by
  obtain ⟨⟨r1, r2, r3, r4⟩, rf, rg, rh⟩ := id rk
  refine g_start (by decide) (Nat.le_of_ble_eq_true rfl) (fun X hX hE hin => ?_)
  refine g_aload_n (pc := 0) hX 0 d_RW_setBeside_0 rfl rfl ?_
  refine g_iload_n (pc := 1) hX 1 d_RW_setBeside_1 rfl rfl ?_
  refine g_iV (pc := 2) hX (c_RW_has l E r rc rk _ (by omega)) gy_RW_has gv_RW_has w_232 rfl (by decide) (by decide) [0, 1, 2, 3] rfl rfl rfl rfl rfl _ rfl (Nat.le_of_ble_eq_true rfl) d_RW_setBeside_2 (by decide) (by decide) ?_
  refine g_beq (pc := 5) (tgt := 15) hX d_RW_setBeside_5 (by decide) (fun c_1 => ?_) (fun c_1 => ?_)
  · exact absurd h0 c_1
  · refine g_aload_n (pc := 8) hX 0 d_RW_setBeside_8 rfl rfl ?_
    refine g_get (pc := 9) hX f_RW_15 0 rfl rfl d_RW_setBeside_9 ?_
    refine g_iload_n (pc := 12) hX 1 d_RW_setBeside_12 rfl rfl ?_
    refine g_lload_n (pc := 13) hX 2 d_RW_setBeside_13 rfl rfl ?_
    refine g_last (pc := 14) hX 2 rfl (by omega) d_RW_setBeside_14 ?_
    exact g_vret (pc := 15) hX hE d_RW_setBeside_15 (by decide) (by decide) ⟨_, rfl, rfl, rk.u ⟨r1, r2⟩ rf (uZ_gil rg hb) rh, rfl, rfl, rfl⟩

abbrev rm_RW_become : Room := { frames := 3, cells := 6000, slots := 36000, locals := 70 }
set_option maxHeartbeats 4000000 in
set_option maxRecDepth 100000 in
theorem c_RW_become (l : Launch) (E : gE) (r : Nat) (rc : RowT) (rk : rowOK rc) (o : Nat) (oc : RowT) (ok : rowOK oc) : Ct l E y_RW_become b_RW_become 2 none rm_RW_become [.ref r, .ref o] (rowW E r rc ++ rowW E o oc) (fun v w dc ds => ∃ ρ, v = none ∧ w = rowW E r ρ ++ rowW E o oc ∧ rowOK ρ ∧ (rL ρ = rL oc ∧ rN ρ = rN oc ∧ rGrow rc ρ dc ds)) := by
  obtain ⟨⟨r1, r2, r3, r4⟩, rf, rg, rh⟩ := id rk
  obtain ⟨⟨o1, o2, o3, o4⟩, of_, og, oh⟩ := id ok
  refine g_start (by decide) (Nat.le_of_ble_eq_true rfl) (fun X hX hE hin => ?_)
  refine g_aload_n (pc := 0) hX 0 d_RW_become_0 rfl rfl ?_
  refine g_aload_n (pc := 1) hX 1 d_RW_become_1 rfl rfl ?_
  refine g_get (pc := 2) hX f_RW_22 4 rfl rfl d_RW_become_2 ?_
  refine g_callV (pc := 5) hX (c_RW_makeRoom l E r rc rk _ (by omega) (by omega)) gy_RW_makeRoom gv_RW_makeRoom w_164 rfl (by decide) (by decide) [0, 1, 2, 3] rfl rfl rfl rfl rfl _ rfl (Nat.le_of_ble_eq_true rfl) d_RW_become_5 (show _ + 3 ≤ 6000 by omega) (show _ + 19200 ≤ 36000 by omega) (fun _ _ _ _ h => by obtain ⟨_, _, h2, _⟩ := h; rw [h2]; exact Nat.le_of_ble_eq_true rfl) (fun v w dc_1 ds_1 hp => ?_)
  obtain ⟨r_1, rfl, rfl, rk_1, f_1⟩ := hp
  refine g_wsP (rowW E r r_1 ++ rowW E o oc) rfl rfl ?_
  obtain ⟨⟨s1, s2, s3, s4⟩, sf, sg, sh⟩ := id rk_1
  obtain ⟨e1, e2, e3, e4⟩ := f_1
  refine g_aload_n (pc := 8) hX 1 d_RW_become_8 rfl rfl ?_
  refine g_get (pc := 9) hX f_RW_9 4 rfl rfl d_RW_become_9 ?_
  refine g_iconst (pc := 12) hX d_RW_become_12 ?_
  refine g_aload_n (pc := 13) hX 0 d_RW_become_13 rfl rfl ?_
  refine g_get (pc := 14) hX f_RW_9 0 rfl rfl d_RW_become_14 ?_
  refine g_iconst (pc := 17) hX d_RW_become_17 ?_
  refine g_aload_n (pc := 18) hX 1 d_RW_become_18 rfl rfl ?_
  refine g_get (pc := 19) hX f_RW_22 4 rfl rfl d_RW_become_19 ?_
  refine g_copyI (pc := 22) hX w_444 w_189 w_188 w_10 5 1 rfl rfl (by omega) (by decide) (by decide) (Nat.le_of_ble_eq_true rfl) d_RW_become_22 ?_
  refine g_aload_n (pc := 25) hX 1 d_RW_become_25 rfl rfl ?_
  refine g_get (pc := 26) hX f_RW_15 4 rfl rfl d_RW_become_26 ?_
  refine g_iconst (pc := 29) hX d_RW_become_29 ?_
  refine g_aload_n (pc := 30) hX 0 d_RW_become_30 rfl rfl ?_
  refine g_get (pc := 31) hX f_RW_15 0 rfl rfl d_RW_become_31 ?_
  refine g_iconst (pc := 34) hX d_RW_become_34 ?_
  refine g_aload_n (pc := 35) hX 1 d_RW_become_35 rfl rfl ?_
  refine g_get (pc := 36) hX f_RW_22 4 rfl rfl d_RW_become_36 ?_
  refine g_copyL (pc := 39) hX w_444 w_189 w_188 w_10 6 2 rfl rfl (by omega) (by decide) (by decide) (Nat.le_of_ble_eq_true rfl) d_RW_become_39 ?_
  refine g_aload_n (pc := 42) hX 0 d_RW_become_42 rfl rfl ?_
  refine g_aload_n (pc := 43) hX 1 d_RW_become_43 rfl rfl ?_
  refine g_get (pc := 44) hX f_RW_22 4 rfl rfl d_RW_become_44 ?_
  refine g_put (pc := 47) hX f_RW_22 gt_RW 0 rfl rfl rfl rfl (Nat.le_of_ble_eq_true rfl) d_RW_become_47 ?_
  exact g_vret (pc := 50) hX hE d_RW_become_50 (show _ ≤ 6000 by obtain ⟨g1, g2, g3⟩ := e4; omega) (show _ ≤ 36000 by obtain ⟨g1, g2, g3⟩ := e4; omega) ⟨(rA r_1, rN oc, rC r_1, va_cpy (rF oc) (rF r_1) 0 0 (rN oc), va_cpy (rG oc) (rG r_1) 0 0 (rN oc), rH r_1), rfl, rfl, rk_1.u (by omega) (cpy_gin of_ sf) (cpy_gil og sg) sh, Lr_congr (fun j hj => ⟨cpy_lo hj, cpy_lo hj⟩), rfl, by rw [Nat.zero_add, Nat.zero_add]; exact e4⟩

abbrev rm_RW_init : Room := { frames := 1, cells := 3, slots := 48, locals := 20 }
set_option maxHeartbeats 4000000 in
set_option maxRecDepth 100000 in
theorem c_RW_init (l : Launch) (E : gE) (r : Nat) : Ct l E y_RW_init b_RW_init 1 none rm_RW_init [.ref r] ([(r, .inr (2, [.null, .null, .null, .int 0]))]) (fun v w dc ds => ∃ ρ, v = none ∧ w = rowW E r ρ ∧ rowOK ρ ∧ (rN ρ = 0 ∧ rC ρ = 16 ∧ dc = 3 ∧ ds = 48)) := by
  refine g_start (by decide) (Nat.le_of_ble_eq_true rfl) (fun X hX hE hin => ?_)
  replace hin := hin rfl
  refine g_aload_n (pc := 0) hX 0 d_RW_init_0 rfl rfl ?_
  refine g_objInit (pc := 1) hX w_38 w_17 w_18 (by decide) (by decide) (Nat.le_of_ble_eq_true rfl) d_RW_init_1 ?_
  refine g_aload_n (pc := 4) hX 0 d_RW_init_4 rfl rfl ?_
  refine g_bipush (pc := 5) hX 16 d_RW_init_5 (by decide) ?_
  refine g_newI (pc := 7) hX w_52 (by omega) (by omega) (by decide) (by decide) d_RW_init_7 (fun q7 => ?_)
  refine g_put (pc := 9) hX f_RW_9 gt_RW 0 rfl rfl rfl rfl (Nat.le_of_ble_eq_true rfl) d_RW_init_9 ?_
  refine g_aload_n (pc := 12) hX 0 d_RW_init_12 rfl rfl ?_
  refine g_bipush (pc := 13) hX 16 d_RW_init_13 (by decide) ?_
  refine g_newL (pc := 15) hX w_32 (by omega) (by omega) (by decide) (by decide) d_RW_init_15 (fun q15 => ?_)
  refine g_put (pc := 17) hX f_RW_15 gt_RW 0 rfl rfl rfl rfl (Nat.le_of_ble_eq_true rfl) d_RW_init_17 ?_
  refine g_aload_n (pc := 20) hX 0 d_RW_init_20 rfl rfl ?_
  refine g_bipush (pc := 21) hX 16 d_RW_init_21 (by decide) ?_
  refine g_newI (pc := 23) hX w_52 (by omega) (by omega) (by decide) (by decide) d_RW_init_23 (fun q23 => ?_)
  refine g_put (pc := 25) hX f_RW_19 gt_RW 0 rfl rfl rfl rfl (Nat.le_of_ble_eq_true rfl) d_RW_init_25 ?_
  refine g_aload_n (pc := 28) hX 0 d_RW_init_28 rfl rfl ?_
  refine g_iconst (pc := 29) hX d_RW_init_29 ?_
  refine g_put (pc := 30) hX f_RW_22 gt_RW 0 rfl rfl rfl rfl (Nat.le_of_ble_eq_true rfl) d_RW_init_30 ?_
  refine g_sub (rowW E r ((q7, q15, q23), 0, 16, fun _ => 0, fun _ => 0, fun _ => 0)) [0, 1, 2, 3] rfl rfl ?_
  exact g_vret (pc := 33) hX hE d_RW_init_33 (by decide) (by decide) ⟨_, rfl, rfl, rowOK_new _, rfl, rfl, rfl, rfl⟩

abbrev rm_RW_measure : Room := { frames := 4, cells := 0, slots := 0, locals := 84 }
set_option maxHeartbeats 4000000 in
set_option maxRecDepth 100000 in
theorem c_RW_measure (l : Launch) (E : gE) (r : Nat) (rc : RowT) (rk : rowOK rc) : Ct l E y_RW_measure b_RW_measure 3 (some .boolean) rm_RW_measure [.ref r] (rowW E r rc) (fun v w dc ds => ∃ ρ, v = some (.int (iI (bZ (OneT (rN rc) (rF rc))))) ∧ w = rowW E r ρ ∧ rowOK ρ ∧ (rN ρ = rN rc ∧ rC ρ = rC rc ∧ rF ρ = rF rc ∧ rG ρ = rG rc ∧ (OneT (rN rc) (rF rc) → ∃ σ, Sz (rN rc) (rF rc) σ 0 ∧ σ 0 = rN rc ∧ ∀ j, j < rN rc → rH ρ j = σ j) ∧ dc = 0 ∧ ds = 0)) := by
  obtain ⟨⟨r1, r2, r3, r4⟩, rf, rg, rh⟩ := id rk
  refine g_start (by decide) (Nat.le_of_ble_eq_true rfl) (fun X hX hE hin => ?_)
  refine g_aload_n (pc := 0) hX 0 d_RW_measure_0 rfl rfl ?_
  refine g_get (pc := 1) hX f_RW_22 0 rfl rfl d_RW_measure_1 ?_
  refine g_iconst (pc := 4) hX d_RW_measure_4 ?_
  refine g_isub (pc := 5) hX d_RW_measure_5 ?_
  refine g_istore_n (pc := 6) hX 1 d_RW_measure_6 rfl (by decide) ?_
  have loop : ∀ (m : Nat) (k : Int) (h : Nat → Int) (σ : Nat → Nat), k = (m : Int) - 1 → m ≤ rN rc → (∀ j, gin (h j)) → (∀ j, m ≤ j → j < rN rc → h j = σ j) → Sz (rN rc) (rF rc) σ m → gW X (rowW E r (rA rc, rN rc, rC rc, rF rc, rG rc, h)) 0 0 7 [(0, .ref r), (1, .int (iI k))] [] := by
    intro m
    induction m with
    | zero =>
      intro k h σ hk hm hh hs hz
      obtain rfl : k = -1 := by (first | omega | (dsimp only [rN, rC, rF, rG, rH, rA] at *; omega))
      have hok : rowOK (rA rc, rN rc, rC rc, rF rc, rG rc, h) := rk.u ⟨r1, r2⟩ rf rg hh
      refine g_iload_n (pc := 7) hX 1 d_RW_measure_7 rfl rfl ?_
      refine g_if_lt (pc := 8) (tgt := 75) hX d_RW_measure_8 (by decide) (by (first | omega | (dsimp only [rN, rC, rF, rG, rH, rA] at *; omega))) (fun c_1 => ?_) (fun c_1 => ?_)
      · refine g_aload_n (pc := 75) hX 0 d_RW_measure_75 rfl rfl ?_
        refine g_get (pc := 76) hX f_RW_22 0 rfl rfl d_RW_measure_76 ?_
        refine g_if_le (pc := 79) (tgt := 99) hX d_RW_measure_79 (by decide) (by (first | omega | (dsimp only [rN, rC, rF, rG, rH, rA] at *; omega))) (fun c_2 => ?_) (fun c_2 => ?_)
        · have hno : ¬ OneT (rN rc) (rF rc) := fun q => by have q2 := (OneT.iff hz).mp q; (first | omega | (dsimp only [rN, rC, rF, rG, rH, rA] at *; omega))
          refine g_iconst (pc := 99) hX d_RW_measure_99 ?_
          exact g_zret (pc := 100) hX hE (by first | exact Or.inl rfl | exact Or.inr rfl | exact bZ_01 _) d_RW_measure_100 (by decide) (by decide) ⟨((rA rc, rN rc, rC rc, rF rc, rG rc, h) : RowT), by rw [bZ_f hno], rfl, hok, rfl, rfl, rfl, rfl, fun q => absurd q hno, rfl, rfl⟩
        · have h0 : h (Int.toNat 0) = σ 0 := hs 0 (by (first | omega | (dsimp only [rN, rC, rF, rG, rH, rA] at *; omega))) (by (first | omega | (dsimp only [rN, rC, rF, rG, rH, rA] at *; omega)))
          have h1 := hh (Int.toNat 0)
          refine g_aload_n (pc := 82) hX 0 d_RW_measure_82 rfl rfl ?_
          refine g_get (pc := 83) hX f_RW_19 0 rfl rfl d_RW_measure_83 ?_
          refine g_iconst (pc := 86) hX d_RW_measure_86 ?_
          refine g_iald (pc := 87) hX 3 rfl (by (first | omega | (dsimp only [rN, rC, rF, rG, rH, rA] at *; omega))) d_RW_measure_87 ?_
          refine g_aload_n (pc := 88) hX 0 d_RW_measure_88 rfl rfl ?_
          refine g_get (pc := 89) hX f_RW_22 0 rfl rfl d_RW_measure_89 ?_
          refine g_icmp_ne (pc := 92) (tgt := 99) hX d_RW_measure_92 (by decide) (by (first | omega | (dsimp only [rN, rC, rF, rG, rH, rA] at *; omega))) (by (first | omega | (dsimp only [rN, rC, rF, rG, rH, rA] at *; omega))) (fun c_3 => ?_) (fun c_3 => ?_)
          · have hno : ¬ OneT (rN rc) (rF rc) := fun q => by have q2 := (OneT.iff hz).mp q; (first | omega | (dsimp only [rN, rC, rF, rG, rH, rA] at *; omega))
            refine g_iconst (pc := 99) hX d_RW_measure_99 ?_
            exact g_zret (pc := 100) hX hE (by first | exact Or.inl rfl | exact Or.inr rfl | exact bZ_01 _) d_RW_measure_100 (by decide) (by decide) ⟨((rA rc, rN rc, rC rc, rF rc, rG rc, h) : RowT), by rw [bZ_f hno], rfl, hok, rfl, rfl, rfl, rfl, fun q => absurd q hno, rfl, rfl⟩
          · have hyes2 : σ 0 = rN rc := by (first | omega | (dsimp only [rN, rC, rF, rG, rH, rA] at *; omega))
            have hyes : OneT (rN rc) (rF rc) := (OneT.iff hz).mpr ⟨by (first | omega | (dsimp only [rN, rC, rF, rG, rH, rA] at *; omega)), hyes2⟩
            refine g_iconst (pc := 95) hX d_RW_measure_95 ?_
            refine g_goto (pc := 96) (tgt := 100) hX d_RW_measure_96 (by decide) ?_
            exact g_zret (pc := 100) hX hE (by first | exact Or.inl rfl | exact Or.inr rfl | exact bZ_01 _) d_RW_measure_100 (by decide) (by decide) ⟨((rA rc, rN rc, rC rc, rF rc, rG rc, h) : RowT), by rw [bZ_t hyes], rfl, hok, rfl, rfl, rfl, rfl, fun _ => ⟨σ, hz, hyes2, fun j hj => hs j (Nat.zero_le _) hj⟩, rfl, rfl⟩
      · exact absurd c_1 (by (first | omega | (dsimp only [rN, rC, rF, rG, rH, rA] at *; omega)))
    | succ m ih =>
      intro k h σ hk hm hh hs hz
      obtain rfl : k = (m : Int) := by (first | omega | (dsimp only [rN, rC, rF, rG, rH, rA] at *; omega))
      have hok : rowOK (rA rc, rN rc, rC rc, rF rc, rG rc, h) := rk.u ⟨r1, r2⟩ rf rg hh
      refine g_iload_n (pc := 7) hX 1 d_RW_measure_7 rfl rfl ?_
      refine g_if_lt (pc := 8) (tgt := 75) hX d_RW_measure_8 (by decide) (by (first | omega | (dsimp only [rN, rC, rF, rG, rH, rA] at *; omega))) (fun c_4 => ?_) (fun c_4 => ?_)
      · exact absurd c_4 (by (first | omega | (dsimp only [rN, rC, rF, rG, rH, rA] at *; omega)))
      · refine g_aload_n (pc := 11) hX 0 d_RW_measure_11 rfl rfl ?_
        refine g_get (pc := 12) hX f_RW_19 0 rfl rfl d_RW_measure_12 ?_
        refine g_iload_n (pc := 15) hX 1 d_RW_measure_15 rfl rfl ?_
        refine g_iconst (pc := 16) hX d_RW_measure_16 ?_
        refine g_iast (pc := 17) hX 3 rfl (by (first | omega | (dsimp only [rN, rC, rF, rG, rH, rA] at *; omega))) d_RW_measure_17 ?_
        have hok1 : rowOK ((rA rc, rN rc, rC rc, rF rc, rG rc, uZ h m 1) : RowT) := rk.u ⟨r1, r2⟩ rf rg (uZ_gin hh (by decide))
        refine g_ws (rowW E r ((rA rc, rN rc, rC rc, rF rc, rG rc, uZ h m 1) : RowT)) rfl ?_
        have q1 := rf ((m : Int).toNat)
        refine g_aload_n (pc := 18) hX 0 d_RW_measure_18 rfl rfl ?_
        refine g_get (pc := 19) hX f_RW_9 0 rfl rfl d_RW_measure_19 ?_
        refine g_iload_n (pc := 22) hX 1 d_RW_measure_22 rfl rfl ?_
        refine g_iald (pc := 23) hX 1 rfl (by (first | omega | (dsimp only [rN, rC, rF, rG, rH, rA] at *; omega))) d_RW_measure_23 ?_
        refine g_iSN (pc := 24) hX (c_NS_hasParts l E _ (by (first | omega | (dsimp only [rN, rC, rF, rG, rH, rA] at *; omega)))) gy_NS_hasParts w_215 n_214 rfl (by decide) (by decide) [] rfl rfl _ rfl (Nat.le_of_ble_eq_true rfl) d_RW_measure_24 (by decide) (by decide) ?_
        refine g_beq (pc := 27) (tgt := 69) hX d_RW_measure_27 (by decide) (fun c_5 => ?_) (fun c_5 => ?_)
        · have hnp : ¬ pP (rF rc m) := fun q => by unfold pP at q; exact c_5 q
          refine g_iinc (pc := 69) hX d_RW_measure_69 (by decide) rfl ?_
          refine g_goto (pc := 72) (tgt := 7) hX d_RW_measure_72 (by decide) ?_
          refine g_lv [(0, .ref r), (1, .int (iI ((m : Int) + -1)))] ⟨rfl, rfl, trivial⟩ ?_
          exact ih _ (uZ h m 1) (uZ σ m 1) (by (first | omega | (dsimp only [rN, rC, rF, rG, rH, rA] at *; omega))) (by (first | omega | (dsimp only [rN, rC, rF, rG, rH, rA] at *; omega))) (uZ_gin hh (by decide)) (mz_s hs rfl) (hz.put (by (first | omega | (dsimp only [rN, rC, rF, rG, rH, rA] at *; omega))) (by (first | omega | (dsimp only [rN, rC, rF, rG, rH, rA] at *; omega))) (fun q => absurd q hnp) (fun _ => rfl))
        · have hpp : pP (rF rc m) := by unfold pP; exact c_5
          refine g_aload_n (pc := 30) hX 0 d_RW_measure_30 rfl rfl ?_
          refine g_iload_n (pc := 31) hX 1 d_RW_measure_31 rfl rfl ?_
          refine g_iV (pc := 32) hX (c_RW_second l E r ((rA rc, rN rc, rC rc, rF rc, rG rc, uZ h m 1) : RowT) hok1 _ (by (first | omega | (dsimp only [rN, rC, rF, rG, rH, rA] at *; omega))) (by (first | omega | (dsimp only [rN, rC, rF, rG, rH, rA] at *; omega)))) gy_RW_second gv_RW_second w_220 rfl (by decide) (by decide) [0, 1, 2, 3] rfl rfl rfl rfl rfl _ rfl (Nat.le_of_ble_eq_true rfl) d_RW_measure_32 (by decide) (by decide) ?_
          refine g_istore_n (pc := 35) hX 2 d_RW_measure_35 rfl (by decide) ?_
          refine g_aload_n (pc := 36) hX 0 d_RW_measure_36 rfl rfl ?_
          refine g_iload_n (pc := 37) hX 1 d_RW_measure_37 rfl rfl ?_
          refine g_iconst (pc := 38) hX d_RW_measure_38 ?_
          refine g_iadd (pc := 39) hX d_RW_measure_39 ?_
          refine g_iV (pc := 40) hX (c_RW_has l E r ((rA rc, rN rc, rC rc, rF rc, rG rc, uZ h m 1) : RowT) hok1 _ (by (first | omega | (dsimp only [rN, rC, rF, rG, rH, rA] at *; omega)))) gy_RW_has gv_RW_has w_232 rfl (by decide) (by decide) [0, 1, 2, 3] rfl rfl rfl rfl rfl _ rfl (Nat.le_of_ble_eq_true rfl) d_RW_measure_40 (by decide) (by decide) ?_
          refine g_beq (pc := 43) (tgt := 54) hX d_RW_measure_43 (by decide) (fun c_6 => ?_) (fun c_6 => ?_)
          · have hno : ¬ OneT (rN rc) (rF rc) := OneT.not hz (by (first | omega | (dsimp only [rN, rC, rF, rG, rH, rA] at *; omega))) hpp (by (first | omega | (dsimp only [rN, rC, rF, rG, rH, rA] at *; omega)))
            refine g_iconst (pc := 54) hX d_RW_measure_54 ?_
            exact g_zret (pc := 55) hX hE (by first | exact Or.inl rfl | exact Or.inr rfl | exact bZ_01 _) d_RW_measure_55 (by decide) (by decide) ⟨((rA rc, rN rc, rC rc, rF rc, rG rc, uZ h m 1) : RowT), by rw [bZ_f hno], rfl, hok1, rfl, rfl, rfl, rfl, fun q => absurd q hno, rfl, rfl⟩
          · have ha : rS ((rA rc, rN rc, rC rc, rF rc, rG rc, uZ h m 1) : RowT) ((m : Int) + 1) = (σ (m + 1) : Int) := by
              rw [rS_t (by (first | omega | (dsimp only [rN, rC, rF, rG, rH, rA] at *; omega)))]
              exact (uZ_n (by (first | omega | (dsimp only [rN, rC, rF, rG, rH, rA] at *; omega)))).trans (hs (m + 1) (Nat.le_refl _) (by (first | omega | (dsimp only [rN, rC, rF, rG, rH, rA] at *; omega))))
            have hz1 := (hz (m + 1) (Nat.le_refl _) (by (first | omega | (dsimp only [rN, rC, rF, rG, rH, rA] at *; omega)))).2.1
            refine g_aload_n (pc := 46) hX 0 d_RW_measure_46 rfl rfl ?_
            refine g_iload_n (pc := 47) hX 2 d_RW_measure_47 rfl rfl ?_
            refine g_iV (pc := 48) hX (c_RW_has l E r ((rA rc, rN rc, rC rc, rF rc, rG rc, uZ h m 1) : RowT) hok1 _ (by (first | omega | (dsimp only [rN, rC, rF, rG, rH, rA] at *; omega)))) gy_RW_has gv_RW_has w_232 rfl (by decide) (by decide) [0, 1, 2, 3] rfl rfl rfl rfl rfl _ rfl (Nat.le_of_ble_eq_true rfl) d_RW_measure_48 (by decide) (by decide) ?_
            refine g_bne (pc := 51) (tgt := 56) hX d_RW_measure_51 (by decide) (fun c_7 => ?_) (fun c_7 => ?_)
            · have hb : rS ((rA rc, rN rc, rC rc, rF rc, rG rc, uZ h m 1) : RowT) ((m : Int) + 1 + rS ((rA rc, rN rc, rC rc, rF rc, rG rc, uZ h m 1) : RowT) ((m : Int) + 1)) = (σ (m + 1 + σ (m + 1)) : Int) := by
                rw [rS_t (by (first | omega | (dsimp only [rN, rC, rF, rG, rH, rA] at *; omega)))]
                have e : ((m : Int) + 1 + rS ((rA rc, rN rc, rC rc, rF rc, rG rc, uZ h m 1) : RowT) ((m : Int) + 1)).toNat = m + 1 + σ (m + 1) := by (first | omega | (dsimp only [rN, rC, rF, rG, rH, rA] at *; omega))
                rw [e]
                exact (uZ_n (by (first | omega | (dsimp only [rN, rC, rF, rG, rH, rA] at *; omega)))).trans (hs _ (by (first | omega | (dsimp only [rN, rC, rF, rG, rH, rA] at *; omega))) (by (first | omega | (dsimp only [rN, rC, rF, rG, rH, rA] at *; omega))))
              have hz2 := (hz (m + 1 + σ (m + 1)) (by (first | omega | (dsimp only [rN, rC, rF, rG, rH, rA] at *; omega))) (by (first | omega | (dsimp only [rN, rC, rF, rG, rH, rA] at *; omega)))).2.1
              refine g_aload_n (pc := 56) hX 0 d_RW_measure_56 rfl rfl ?_
              refine g_get (pc := 57) hX f_RW_19 0 rfl rfl d_RW_measure_57 ?_
              refine g_iload_n (pc := 60) hX 1 d_RW_measure_60 rfl rfl ?_
              refine g_aload_n (pc := 61) hX 0 d_RW_measure_61 rfl rfl ?_
              refine g_iload_n (pc := 62) hX 2 d_RW_measure_62 rfl rfl ?_
              refine g_iV (pc := 63) hX (c_RW_end l E r ((rA rc, rN rc, rC rc, rF rc, rG rc, uZ h m 1) : RowT) hok1 _ (by (first | omega | (dsimp only [rN, rC, rF, rG, rH, rA] at *; omega)))) gy_RW_end gv_RW_end w_224 rfl (by decide) (by decide) [0, 1, 2, 3] rfl rfl rfl rfl rfl _ rfl (Nat.le_of_ble_eq_true rfl) d_RW_measure_63 (by decide) (by decide) ?_
              refine g_iload_n (pc := 66) hX 1 d_RW_measure_66 rfl rfl ?_
              refine g_isub (pc := 67) hX d_RW_measure_67 ?_
              obtain ⟨hx, ehx⟩ : ∃ hx : Int, hx = (m : Int) + 1 + rS ((rA rc, rN rc, rC rc, rF rc, rG rc, uZ h m 1) : RowT) ((m : Int) + 1) + rS ((rA rc, rN rc, rC rc, rF rc, rG rc, uZ h m 1) : RowT) ((m : Int) + 1 + rS ((rA rc, rN rc, rC rc, rF rc, rG rc, uZ h m 1) : RowT) ((m : Int) + 1)) - (m : Int) := ⟨_, rfl⟩
              rw [← ehx]
              refine g_iast (pc := 68) hX 3 rfl (by (first | omega | (dsimp only [rN, rC, rF, rG, rH, rA] at *; omega))) d_RW_measure_68 ?_
              refine g_ws (rowW E r ((rA rc, rN rc, rC rc, rF rc, rG rc, uZ (uZ h m 1) m hx) : RowT)) rfl ?_
              rw [uZ_uZ]
              refine g_iinc (pc := 69) hX d_RW_measure_69 (by decide) rfl ?_
              refine g_goto (pc := 72) (tgt := 7) hX d_RW_measure_72 (by decide) ?_
              refine g_lv [(0, .ref r), (1, .int (iI ((m : Int) + -1)))] ⟨rfl, rfl, trivial⟩ ?_
              exact ih _ (uZ h m hx) (uZ σ m (1 + σ (m + 1) + σ (m + 1 + σ (m + 1)))) (by (first | omega | (dsimp only [rN, rC, rF, rG, rH, rA] at *; omega))) (by (first | omega | (dsimp only [rN, rC, rF, rG, rH, rA] at *; omega))) (uZ_gin hh (by (first | omega | (dsimp only [rN, rC, rF, rG, rH, rA] at *; omega)))) (mz_s hs (by (first | omega | (dsimp only [rN, rC, rF, rG, rH, rA] at *; omega)))) (hz.put (by (first | omega | (dsimp only [rN, rC, rF, rG, rH, rA] at *; omega))) (by (first | omega | (dsimp only [rN, rC, rF, rG, rH, rA] at *; omega))) (fun _ => ⟨by (first | omega | (dsimp only [rN, rC, rF, rG, rH, rA] at *; omega)), by (first | omega | (dsimp only [rN, rC, rF, rG, rH, rA] at *; omega)), rfl⟩) (fun q => absurd hpp q))
            · have hno : ¬ OneT (rN rc) (rF rc) := OneT.not hz (by (first | omega | (dsimp only [rN, rC, rF, rG, rH, rA] at *; omega))) hpp (by (first | omega | (dsimp only [rN, rC, rF, rG, rH, rA] at *; omega)))
              refine g_iconst (pc := 54) hX d_RW_measure_54 ?_
              exact g_zret (pc := 55) hX hE (by first | exact Or.inl rfl | exact Or.inr rfl | exact bZ_01 _) d_RW_measure_55 (by decide) (by decide) ⟨((rA rc, rN rc, rC rc, rF rc, rG rc, uZ h m 1) : RowT), by rw [bZ_f hno], rfl, hok1, rfl, rfl, rfl, rfl, fun q => absurd q hno, rfl, rfl⟩
  refine g_lv [(0, .ref r), (1, .int (iI ((rN rc : Int) - 1)))] ⟨rfl, rfl, trivial⟩ ?_
  exact loop (rN rc) _ (rH rc) (fun _ => 0) rfl (Nat.le_refl _) rh (fun j h1 h2 => by (first | omega | (dsimp only [rN, rC, rF, rG, rH, rA] at *; omega))) (fun j h1 h2 => by (first | omega | (dsimp only [rN, rC, rF, rG, rH, rA] at *; omega)))
  
