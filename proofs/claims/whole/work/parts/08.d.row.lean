abbrev rm_RW_makeRoom : Room := { frames := 2, cells := 3, slots := 19200, locals := 48 }
set_option maxHeartbeats 4000000 in
set_option maxRecDepth 100000 in
theorem c_RW_makeRoom (l : Launch) (E : gE) (r : Nat) (rc : RowT) (rk : rowOK rc) (m : Int) (hm : gin m) (h0 : m ≤ 3000) : Ct l E y_RW_makeRoom b_RW_makeRoom 3 none rm_RW_makeRoom [.ref r, .int (iI m)] (rowW E r rc) (fun v w dc ds => ∃ ρ, v = none ∧ w = rowW E r ρ ∧ rowOK ρ ∧ (rN ρ = rN rc ∧ m ≤ rC ρ ∧ (∀ j, j < rC rc → rF ρ j = rF rc j ∧ rG ρ j = rG rc j) ∧ rGrow rc ρ dc ds)) := by
  obtain ⟨⟨r1, r2, r3, r4⟩, rf, rg, rh⟩ := id rk
  refine g_start (by decide) (Nat.le_of_ble_eq_true rfl) (fun X hX hE hin => ?_)
  refine g_iload_n (pc := 0) hX 1 d_RW_makeRoom_0 rfl rfl ?_
  refine g_aload_n (pc := 1) hX 0 d_RW_makeRoom_1 rfl rfl ?_
  refine g_get (pc := 2) hX f_RW_9 0 rfl rfl d_RW_makeRoom_2 ?_
  refine g_alenI (pc := 5) hX 1 rfl d_RW_makeRoom_5 ?_
  refine g_icmp_le (pc := 6) (tgt := 55) hX d_RW_makeRoom_6 (by decide) (by omega) (by omega) (fun c_1 => ?_) (fun c_1 => ?_)
  · exact g_vret (pc := 55) hX hE d_RW_makeRoom_55 (show _ ≤ 3 by omega) (show _ ≤ 19200 by omega) ⟨rc, rfl, rfl, rk, rfl, by omega, fun j hj => ⟨rfl, rfl⟩, rGrow.rf rc⟩
  · refine g_aload_n (pc := 9) hX 0 d_RW_makeRoom_9 rfl rfl ?_
    refine g_get (pc := 10) hX f_RW_9 0 rfl rfl d_RW_makeRoom_10 ?_
    refine g_alenI (pc := 13) hX 1 rfl d_RW_makeRoom_13 ?_
    refine g_iload_n (pc := 14) hX 1 d_RW_makeRoom_14 rfl rfl ?_
    refine g_iSN (pc := 15) hX (c_NS_longer l E _ (by omega) _ (by omega) (by omega)) gy_NS_longer w_169 n_168 rfl (by decide) (by decide) [] rfl rfl _ rfl (Nat.le_of_ble_eq_true rfl) d_RW_makeRoom_15 (show _ + 0 ≤ 3 by omega) (show _ + 0 ≤ 19200 by omega) ?_
    obtain ⟨L, hL⟩ : ∃ L : Int, L = if m < 2 * (rC rc : Int) then 2 * (rC rc : Int) else m := ⟨_, rfl⟩
    rw [← hL]
    have hL2 : m ≤ L ∧ 2 * (rC rc : Int) ≤ L ∧ L ≤ 6000 := by rw [hL]; split <;> omega
    refine g_istore_n (pc := 18) hX 2 d_RW_makeRoom_18 rfl (by decide) ?_
    refine g_aload_n (pc := 19) hX 0 d_RW_makeRoom_19 rfl rfl ?_
    refine g_aload_n (pc := 20) hX 0 d_RW_makeRoom_20 rfl rfl ?_
    refine g_get (pc := 21) hX f_RW_9 0 rfl rfl d_RW_makeRoom_21 ?_
    refine g_iload_n (pc := 24) hX 2 d_RW_makeRoom_24 rfl rfl ?_
    refine g_callS (pc := 25) hX (c_AR_copyOfI l E _ _ _ _ (by omega) (by omega)) gy_AR_copyOfI w_175 w_174 rfl (by decide) (by decide) [1] rfl rfl _ rfl (Nat.le_of_ble_eq_true rfl) d_RW_makeRoom_25 (show _ + 1 ≤ 3 by omega) (show _ + 6400 ≤ 19200 by omega) (fun _ _ _ _ h => by obtain ⟨_, _, h2, _⟩ := h; rw [h2]; exact Nat.le_of_ble_eq_true rfl) (fun v w dc_2 ds_2 hp => ?_)
    obtain ⟨q_2, rfl, rfl, rfl, rfl⟩ := hp
    refine g_put (pc := 28) hX f_RW_9 gt_RW 0 rfl rfl rfl rfl (Nat.le_of_ble_eq_true rfl) d_RW_makeRoom_28 ?_
    refine g_aload_n (pc := 31) hX 0 d_RW_makeRoom_31 rfl rfl ?_
    refine g_aload_n (pc := 32) hX 0 d_RW_makeRoom_32 rfl rfl ?_
    refine g_get (pc := 33) hX f_RW_15 0 rfl rfl d_RW_makeRoom_33 ?_
    refine g_iload_n (pc := 36) hX 2 d_RW_makeRoom_36 rfl rfl ?_
    refine g_callS (pc := 37) hX (c_AR_copyOfL l E _ _ _ _ (by omega) (by omega)) gy_AR_copyOfL w_191 w_190 rfl (by decide) (by decide) [2] rfl rfl _ rfl (Nat.le_of_ble_eq_true rfl) d_RW_makeRoom_37 (show _ + 1 ≤ 3 by omega) (show _ + 6400 ≤ 19200 by omega) (fun _ _ _ _ h => by obtain ⟨_, _, h2, _⟩ := h; rw [h2]; exact Nat.le_of_ble_eq_true rfl) (fun v w dc_3 ds_3 hp => ?_)
    obtain ⟨q_3, rfl, rfl, rfl, rfl⟩ := hp
    refine g_put (pc := 40) hX f_RW_15 gt_RW 0 rfl rfl rfl rfl (Nat.le_of_ble_eq_true rfl) d_RW_makeRoom_40 ?_
    refine g_aload_n (pc := 43) hX 0 d_RW_makeRoom_43 rfl rfl ?_
    refine g_aload_n (pc := 44) hX 0 d_RW_makeRoom_44 rfl rfl ?_
    refine g_get (pc := 45) hX f_RW_19 0 rfl rfl d_RW_makeRoom_45 ?_
    refine g_iload_n (pc := 48) hX 2 d_RW_makeRoom_48 rfl rfl ?_
    refine g_callS (pc := 49) hX (c_AR_copyOfI l E _ _ _ _ (by omega) (by omega)) gy_AR_copyOfI w_175 w_174 rfl (by decide) (by decide) [3] rfl rfl _ rfl (Nat.le_of_ble_eq_true rfl) d_RW_makeRoom_49 (show _ + 1 ≤ 3 by omega) (show _ + 6400 ≤ 19200 by omega) (fun _ _ _ _ h => by obtain ⟨_, _, h2, _⟩ := h; rw [h2]; exact Nat.le_of_ble_eq_true rfl) (fun v w dc_4 ds_4 hp => ?_)
    obtain ⟨q_4, rfl, rfl, rfl, rfl⟩ := hp
    refine g_put (pc := 52) hX f_RW_19 gt_RW 0 rfl rfl rfl rfl (Nat.le_of_ble_eq_true rfl) d_RW_makeRoom_52 ?_
    refine g_sub (rowW E r (((q_2, q_3, q_4), rN rc, L.toNat, va_cpy (rF rc) (fun _ => 0) 0 0 (rC rc), va_cpy (rG rc) (fun _ => 0) 0 0 (rC rc), va_cpy (rH rc) (fun _ => 0) 0 0 (rC rc)) : RowT)) [0, 4, 5, 6] rfl rfl ?_
    exact g_vret (pc := 55) hX hE d_RW_makeRoom_55 (show _ ≤ 3 by omega) (show _ ≤ 19200 by omega) ⟨_, rfl, rfl, ⟨⟨by show rN rc ≤ 3000; omega, by show rN rc ≤ L.toNat; omega, by show 16 ≤ L.toNat; omega, by show L.toNat ≤ 6000; omega⟩, cpy_gin rf (fun _ => by decide), cpy_gil rg (fun _ => by decide), cpy_gin rh (fun _ => by decide)⟩, rfl, by show m ≤ (L.toNat : Int); omega, fun j hj => ⟨cpy_lo (f := rF rc) (g := fun _ => 0) hj, cpy_lo (f := rG rc) (g := fun _ => 0) hj⟩, by show rC rc ≤ L.toNat; omega, by show _ ≤ L.toNat - rC rc; omega, by show _ ≤ 6 * (L.toNat - rC rc); omega⟩

abbrev rm_RW_add : Room := { frames := 3, cells := 6000, slots := 36000, locals := 70 }
set_option maxHeartbeats 4000000 in
set_option maxRecDepth 100000 in
theorem c_RW_add (l : Launch) (E : gE) (r : Nat) (rc : RowT) (rk : rowOK rc) (k : Int) (hk : gin k) (b : Int) (hb : gil b) (hn : rN rc < 3000) : Ct l E y_RW_add b_RW_add 4 none rm_RW_add [.ref r, .int (iI k), .long (lI b)] (rowW E r rc) (fun v w dc ds => ∃ ρ, v = none ∧ w = rowW E r ρ ∧ rowOK ρ ∧ (rL ρ = rL rc ++ [(k, b)] ∧ rN ρ = rN rc + 1 ∧ rGrow rc ρ dc ds)) := by
  obtain ⟨⟨r1, r2, r3, r4⟩, rf, rg, rh⟩ := id rk
  refine g_start (by decide) (Nat.le_of_ble_eq_true rfl) (fun X hX hE hin => ?_)
  refine g_aload_n (pc := 0) hX 0 d_RW_add_0 rfl rfl ?_
  refine g_get (pc := 1) hX f_RW_22 0 rfl rfl d_RW_add_1 ?_
  refine g_sipush (pc := 4) hX 3000 d_RW_add_4 (by decide) ?_
  refine g_icmp_lt (pc := 7) (tgt := 11) hX d_RW_add_7 (by decide) (by omega) (by omega) (fun c_1 => ?_) (fun c_1 => ?_)
  · refine g_aload_n (pc := 11) hX 0 d_RW_add_11 rfl rfl ?_
    refine g_aload_n (pc := 12) hX 0 d_RW_add_12 rfl rfl ?_
    refine g_get (pc := 13) hX f_RW_22 0 rfl rfl d_RW_add_13 ?_
    refine g_iconst (pc := 16) hX d_RW_add_16 ?_
    refine g_iadd (pc := 17) hX d_RW_add_17 ?_
    refine g_callV (pc := 18) hX (c_RW_makeRoom l E r rc rk _ (by omega) (by omega)) gy_RW_makeRoom gv_RW_makeRoom w_164 rfl (by decide) (by decide) [0, 1, 2, 3] rfl rfl rfl rfl rfl _ rfl (Nat.le_of_ble_eq_true rfl) d_RW_add_18 (show _ + 3 ≤ 6000 by omega) (show _ + 19200 ≤ 36000 by omega) (fun _ _ _ _ h => by obtain ⟨_, _, h2, _⟩ := h; rw [h2]; exact Nat.le_of_ble_eq_true rfl) (fun v w dc_2 ds_2 hp => ?_)
    obtain ⟨r_2, rfl, rfl, rk_2, f_2⟩ := hp
    refine g_wsP (rowW E r r_2) rfl rfl ?_
    obtain ⟨⟨s1, s2, s3, s4⟩, sf, sg, sh⟩ := id rk_2
    obtain ⟨e1, e2, e3, e4⟩ := f_2
    refine g_aload_n (pc := 21) hX 0 d_RW_add_21 rfl rfl ?_
    refine g_get (pc := 22) hX f_RW_9 0 rfl rfl d_RW_add_22 ?_
    refine g_aload_n (pc := 25) hX 0 d_RW_add_25 rfl rfl ?_
    refine g_get (pc := 26) hX f_RW_22 0 rfl rfl d_RW_add_26 ?_
    refine g_iload_n (pc := 29) hX 1 d_RW_add_29 rfl rfl ?_
    refine g_iast (pc := 30) hX 1 rfl (by omega) d_RW_add_30 ?_
    refine g_aload_n (pc := 31) hX 0 d_RW_add_31 rfl rfl ?_
    refine g_get (pc := 32) hX f_RW_15 0 rfl rfl d_RW_add_32 ?_
    refine g_aload_n (pc := 35) hX 0 d_RW_add_35 rfl rfl ?_
    refine g_get (pc := 36) hX f_RW_22 0 rfl rfl d_RW_add_36 ?_
    refine g_lload_n (pc := 39) hX 2 d_RW_add_39 rfl rfl ?_
    refine g_last (pc := 40) hX 2 rfl (by omega) d_RW_add_40 ?_
    refine g_aload_n (pc := 41) hX 0 d_RW_add_41 rfl rfl ?_
    refine g_dup (pc := 42) hX d_RW_add_42 rfl ?_
    refine g_get (pc := 43) hX f_RW_22 0 rfl rfl d_RW_add_43 ?_
    refine g_iconst (pc := 46) hX d_RW_add_46 ?_
    refine g_iadd (pc := 47) hX d_RW_add_47 ?_
    refine g_put (pc := 48) hX f_RW_22 gt_RW 0 rfl rfl rfl rfl (Nat.le_of_ble_eq_true rfl) d_RW_add_48 ?_
    exact g_vret (pc := 51) hX hE d_RW_add_51 (show _ ≤ 6000 by obtain ⟨g1, g2, g3⟩ := e4; omega) (show _ ≤ 36000 by obtain ⟨g1, g2, g3⟩ := e4; omega) ⟨(rA r_2, rN r_2 + 1, rC r_2, uZ (rF r_2) (rN r_2) k, uZ (rG r_2) (rN r_2) b, rH r_2), rfl, rfl, rk_2.u (by omega) (uZ_gin sf hk) (uZ_gil sg hb) sh, rL_add e1 (fun j hj => e3 j (by omega)), by show rN r_2 + 1 = rN rc + 1; omega, by rw [Nat.zero_add, Nat.zero_add]; exact e4⟩
  · exact absurd c_1 (by omega)
