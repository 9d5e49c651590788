abbrev rm_PN_nextOf : Room := { frames := 0, cells := 0, slots := 0, locals := 0 }
set_option maxHeartbeats 4000000 in
set_option maxRecDepth 100000 in
theorem c_PN_nextOf (l : Launch) (E : gE) (n s : Nat) (nc : PnT) (nk : pnOK nc) (q : Int) (hq : gin q) : CtI l E y_PN_nextOf b_PN_nextOf 2 (some .int) rm_PN_nextOf [.ref n, .int (iI q)] (pnW E n s nc) (pX0 nc q) := by
  obtain ⟨⟨n1, n2, n3⟩, nx, ny, nz, nu⟩ := id nk
  refine g_start (by decide) (Nat.le_of_ble_eq_true rfl) (fun X hX hE hin => ?_)
  refine g_iload_n (pc := 0) hX 1 d_PN_nextOf_0 rfl rfl ?_
  refine g_if_lt (pc := 1) (tgt := 22) hX d_PN_nextOf_1 (by decide) (by omega) (fun c_1 => ?_) (fun c_1 => ?_)
  · refine g_sipush (pc := 22) hX 3000 d_PN_nextOf_22 (by decide) ?_
    exact g_iret (pc := 25) hX hE d_PN_nextOf_25 (by decide) (by decide) ⟨by rw [pX0_f (by omega)], rfl, rfl, rfl⟩
  · refine g_iload_n (pc := 4) hX 1 d_PN_nextOf_4 rfl rfl ?_
    refine g_aload_n (pc := 5) hX 0 d_PN_nextOf_5 rfl rfl ?_
    refine g_get (pc := 6) hX f_PN_18 0 rfl rfl d_PN_nextOf_6 ?_
    refine g_alenI (pc := 9) hX 1 rfl d_PN_nextOf_9 ?_
    refine g_icmp_ge (pc := 10) (tgt := 22) hX d_PN_nextOf_10 (by decide) (by omega) (by omega) (fun c_2 => ?_) (fun c_2 => ?_)
    · refine g_sipush (pc := 22) hX 3000 d_PN_nextOf_22 (by decide) ?_
      exact g_iret (pc := 25) hX hE d_PN_nextOf_25 (by decide) (by decide) ⟨by rw [pX0_f (by omega)], rfl, rfl, rfl⟩
    · refine g_aload_n (pc := 13) hX 0 d_PN_nextOf_13 rfl rfl ?_
      refine g_get (pc := 14) hX f_PN_18 0 rfl rfl d_PN_nextOf_14 ?_
      refine g_iload_n (pc := 17) hX 1 d_PN_nextOf_17 rfl rfl ?_
      refine g_iald (pc := 18) hX 1 rfl (by omega) d_PN_nextOf_18 ?_
      refine g_goto (pc := 19) (tgt := 25) hX d_PN_nextOf_19 (by decide) ?_
      exact g_iret (pc := 25) hX hE d_PN_nextOf_25 (by decide) (by decide) ⟨by rw [pX0_t (by omega)], rfl, rfl, rfl⟩

abbrev rm_PN_setNext : Room := { frames := 0, cells := 0, slots := 0, locals := 0 }
set_option maxHeartbeats 4000000 in
set_option maxRecDepth 100000 in
theorem c_PN_setNext (l : Launch) (E : gE) (n s : Nat) (nc : PnT) (nk : pnOK nc) (q : Int) (hq : gin q) (y : Int) (hy : gin y) : Ct l E y_PN_setNext b_PN_setNext 3 none rm_PN_setNext [.ref n, .int (iI q), .int (iI y)] (pnW E n s nc) (fun vv ww dc ds => ∃ π, vv = none ∧ ww = pnW E n s π ∧ pnOK π ∧ (π = (pA nc, pC nc, (if 0 ≤ q ∧ q < pC nc then uZ (pX nc) q.toNat y else pX nc), pL nc, pR nc, pK nc, pM nc) ∧ dc = 0 ∧ ds = 0)) := by
  obtain ⟨⟨n1, n2, n3⟩, nx, ny, nz, nu⟩ := id nk
  refine g_start (by decide) (Nat.le_of_ble_eq_true rfl) (fun X hX hE hin => ?_)
  refine g_iload_n (pc := 0) hX 1 d_PN_setNext_0 rfl rfl ?_
  refine g_if_lt (pc := 1) (tgt := 20) hX d_PN_setNext_1 (by decide) (by omega) (fun c_1 => ?_) (fun c_1 => ?_)
  · have ei : (if 0 ≤ q ∧ q < pC nc then uZ (pX nc) q.toNat y else pX nc) = pX nc := if_neg (by omega)
    exact g_vret (pc := 20) hX hE d_PN_setNext_20 (by decide) (by decide) ⟨_, rfl, by rw [ei] <;> rfl, nk.u n3 (by rw [ei]; first | exact nx | exact uZ_gin nx hy) ny nz nu, rfl, rfl, rfl⟩
  · refine g_iload_n (pc := 4) hX 1 d_PN_setNext_4 rfl rfl ?_
    refine g_aload_n (pc := 5) hX 0 d_PN_setNext_5 rfl rfl ?_
    refine g_get (pc := 6) hX f_PN_18 0 rfl rfl d_PN_setNext_6 ?_
    refine g_alenI (pc := 9) hX 1 rfl d_PN_setNext_9 ?_
    refine g_icmp_ge (pc := 10) (tgt := 20) hX d_PN_setNext_10 (by decide) (by omega) (by omega) (fun c_2 => ?_) (fun c_2 => ?_)
    · have ei : (if 0 ≤ q ∧ q < pC nc then uZ (pX nc) q.toNat y else pX nc) = pX nc := if_neg (by omega)
      exact g_vret (pc := 20) hX hE d_PN_setNext_20 (by decide) (by decide) ⟨_, rfl, by rw [ei] <;> rfl, nk.u n3 (by rw [ei]; first | exact nx | exact uZ_gin nx hy) ny nz nu, rfl, rfl, rfl⟩
    · refine g_aload_n (pc := 13) hX 0 d_PN_setNext_13 rfl rfl ?_
      refine g_get (pc := 14) hX f_PN_18 0 rfl rfl d_PN_setNext_14 ?_
      refine g_iload_n (pc := 17) hX 1 d_PN_setNext_17 rfl rfl ?_
      refine g_iload_n (pc := 18) hX 2 d_PN_setNext_18 rfl rfl ?_
      refine g_iast (pc := 19) hX 1 rfl (by omega) d_PN_setNext_19 ?_
      have ei : (if 0 ≤ q ∧ q < pC nc then uZ (pX nc) q.toNat y else pX nc) = uZ (pX nc) q.toNat y := if_pos (by omega)
      exact g_vret (pc := 20) hX hE d_PN_setNext_20 (by decide) (by decide) ⟨_, rfl, by rw [ei] <;> rfl, nk.u n3 (by rw [ei]; first | exact nx | exact uZ_gin nx hy) ny nz nu, rfl, rfl, rfl⟩

abbrev rm_PN_addNear : Room := { frames := 0, cells := 0, slots := 0, locals := 0 }
set_option maxHeartbeats 4000000 in
set_option maxRecDepth 100000 in
theorem c_PN_addNear (l : Launch) (E : gE) (n s : Nat) (nc : PnT) (nk : pnOK nc) (z : Int) (hz : gil z) (h0 : pM nc < pC nc) : Ct l E y_PN_addNear b_PN_addNear 3 none rm_PN_addNear [.ref n, .long (lI z)] (pnW E n s nc) (fun vv ww dc ds => ∃ π, vv = none ∧ ww = pnW E n s π ∧ pnOK π ∧ (π = (pA nc, pC nc, pX nc, pL nc, uZ (pR nc) (pM nc) z, pK nc, pM nc + 1) ∧ dc = 0 ∧ ds = 0)) := by
  obtain ⟨⟨n1, n2, n3⟩, nx, ny, nz, nu⟩ := id nk
  refine g_start (by decide) (Nat.le_of_ble_eq_true rfl) (fun X hX hE hin => ?_)
  refine g_aload_n (pc := 0) hX 0 d_PN_addNear_0 rfl rfl ?_
  refine g_get (pc := 1) hX f_PN_33 0 rfl rfl d_PN_addNear_1 ?_
  refine g_aload_n (pc := 4) hX 0 d_PN_addNear_4 rfl rfl ?_
  refine g_get (pc := 5) hX f_PN_25 0 rfl rfl d_PN_addNear_5 ?_
  refine g_alenL (pc := 8) hX 3 rfl d_PN_addNear_8 ?_
  refine g_icmp_ge (pc := 9) (tgt := 32) hX d_PN_addNear_9 (by decide) (by omega) (by omega) (fun c_1 => ?_) (fun c_1 => ?_)
  · exact absurd c_1 (by omega)
  · refine g_aload_n (pc := 12) hX 0 d_PN_addNear_12 rfl rfl ?_
    refine g_get (pc := 13) hX f_PN_25 0 rfl rfl d_PN_addNear_13 ?_
    refine g_aload_n (pc := 16) hX 0 d_PN_addNear_16 rfl rfl ?_
    refine g_get (pc := 17) hX f_PN_33 0 rfl rfl d_PN_addNear_17 ?_
    refine g_lload_n (pc := 20) hX 1 d_PN_addNear_20 rfl rfl ?_
    refine g_last (pc := 21) hX 3 rfl (by omega) d_PN_addNear_21 ?_
    refine g_aload_n (pc := 22) hX 0 d_PN_addNear_22 rfl rfl ?_
    refine g_dup (pc := 23) hX d_PN_addNear_23 rfl ?_
    refine g_get (pc := 24) hX f_PN_33 0 rfl rfl d_PN_addNear_24 ?_
    refine g_iconst (pc := 27) hX d_PN_addNear_27 ?_
    refine g_iadd (pc := 28) hX d_PN_addNear_28 ?_
    refine g_put (pc := 29) hX f_PN_33 gt_PN 0 rfl rfl rfl rfl (Nat.le_of_ble_eq_true rfl) d_PN_addNear_29 ?_
    exact g_vret (pc := 32) hX hE d_PN_addNear_32 (by decide) (by decide) ⟨_, rfl, rfl, nk.u (by omega) nx ny (uZ_gil nz hz) nu, rfl, rfl, rfl⟩

abbrev rm_PN_makeRoom : Room := { frames := 2, cells := 4, slots := 25600, locals := 42 }
set_option maxHeartbeats 4000000 in
set_option maxRecDepth 100000 in
theorem c_PN_makeRoom (l : Launch) (E : gE) (n s : Nat) (nc : PnT) (nk : pnOK nc) (m : Int) (hm : gin m) (h0 : m ≤ 3200) : Ct l E y_PN_makeRoom b_PN_makeRoom 3 none rm_PN_makeRoom [.ref n, .int (iI m)] (pnW E n s nc) (fun vv ww dc ds => ∃ π, vv = none ∧ ww = pnW E n s π ∧ pnOK π ∧ (m ≤ pC π ∧ pGrow nc π dc ds)) := by
  obtain ⟨⟨n1, n2, n3⟩, nx, ny, nz, nu⟩ := id nk
  refine g_start (by decide) (Nat.le_of_ble_eq_true rfl) (fun X hX hE hin => ?_)
  refine g_iload_n (pc := 0) hX 1 d_PN_makeRoom_0 rfl rfl ?_
  refine g_aload_n (pc := 1) hX 0 d_PN_makeRoom_1 rfl rfl ?_
  refine g_get (pc := 2) hX f_PN_18 0 rfl rfl d_PN_makeRoom_2 ?_
  refine g_alenI (pc := 5) hX 1 rfl d_PN_makeRoom_5 ?_
  refine g_icmp_le (pc := 6) (tgt := 47) hX d_PN_makeRoom_6 (by decide) (by omega) (by omega) (fun c_1 => ?_) (fun c_1 => ?_)
  · exact g_vret (pc := 47) hX hE d_PN_makeRoom_47 (show _ ≤ 4 by omega) (show _ ≤ 25600 by omega) ⟨nc, rfl, rfl, nk, by omega, pGrow.rf nc⟩
  · refine g_aload_n (pc := 9) hX 0 d_PN_makeRoom_9 rfl rfl ?_
    refine g_get (pc := 10) hX f_PN_18 0 rfl rfl d_PN_makeRoom_10 ?_
    refine g_alenI (pc := 13) hX 1 rfl d_PN_makeRoom_13 ?_
    refine g_iload_n (pc := 14) hX 1 d_PN_makeRoom_14 rfl rfl ?_
    refine g_iSN (pc := 15) hX (c_NS_longer l E _ (by omega) _ (by omega) (by omega)) gy_NS_longer w_169 n_355 rfl (by decide) (by decide) [] rfl (by decide +kernel) _ rfl (Nat.le_of_ble_eq_true rfl) d_PN_makeRoom_15 (show _ + 0 ≤ 4 by omega) (show _ + 0 ≤ 25600 by omega) ?_
    obtain ⟨L, hL⟩ : ∃ L : Int, L = if m < 2 * (pC nc : Int) then 2 * (pC nc : Int) else m := ⟨_, rfl⟩
    rw [← hL]
    have hL2 : m ≤ L ∧ 2 * (pC nc : Int) ≤ L ∧ L ≤ 6400 := by rw [hL]; split <;> omega
    refine g_istore_n (pc := 18) hX 2 d_PN_makeRoom_18 rfl (by decide) ?_
    refine g_aload_n (pc := 19) hX 0 d_PN_makeRoom_19 rfl rfl ?_
    refine g_iload_n (pc := 20) hX 2 d_PN_makeRoom_20 rfl rfl ?_
    refine g_newI (pc := 21) hX w_52 (by omega) (by omega) (show _ + 1 ≤ 4 by omega) (show _ + _ ≤ 25600 by omega) d_PN_makeRoom_21 (fun q21 => ?_)
    refine g_put (pc := 23) hX f_PN_18 gt_PN 0 rfl rfl rfl rfl (Nat.le_of_ble_eq_true rfl) d_PN_makeRoom_23 ?_
    refine g_aload_n (pc := 26) hX 0 d_PN_makeRoom_26 rfl rfl ?_
    refine g_iload_n (pc := 27) hX 2 d_PN_makeRoom_27 rfl rfl ?_
    refine g_newI (pc := 28) hX w_52 (by omega) (by omega) (show _ + 1 ≤ 4 by omega) (show _ + _ ≤ 25600 by omega) d_PN_makeRoom_28 (fun q28 => ?_)
    refine g_put (pc := 30) hX f_PN_22 gt_PN 0 rfl rfl rfl rfl (Nat.le_of_ble_eq_true rfl) d_PN_makeRoom_30 ?_
    refine g_aload_n (pc := 33) hX 0 d_PN_makeRoom_33 rfl rfl ?_
    refine g_iload_n (pc := 34) hX 2 d_PN_makeRoom_34 rfl rfl ?_
    refine g_newL (pc := 35) hX w_32 (by omega) (by omega) (show _ + 1 ≤ 4 by omega) (show _ + _ ≤ 25600 by omega) d_PN_makeRoom_35 (fun q35 => ?_)
    refine g_put (pc := 37) hX f_PN_25 gt_PN 0 rfl rfl rfl rfl (Nat.le_of_ble_eq_true rfl) d_PN_makeRoom_37 ?_
    refine g_aload_n (pc := 40) hX 0 d_PN_makeRoom_40 rfl rfl ?_
    refine g_iload_n (pc := 41) hX 2 d_PN_makeRoom_41 rfl rfl ?_
    refine g_newZ (pc := 42) hX w_99 (by omega) (by omega) (show _ + 1 ≤ 4 by omega) (show _ + _ ≤ 25600 by omega) d_PN_makeRoom_42 (fun q42 => ?_)
    refine g_put (pc := 44) hX f_PN_29 gt_PN 0 rfl rfl rfl rfl (Nat.le_of_ble_eq_true rfl) d_PN_makeRoom_44 ?_
    refine g_sub (pnW E n s (((q21, q28, q35, q42), L.toNat, fun _ => 0, fun _ => 0, fun _ => 0, fun _ => 0, pM nc) : PnT)) [0, 5, 6, 7, 8] rfl rfl ?_
    exact g_vret (pc := 47) hX hE d_PN_makeRoom_47 (show _ ≤ 4 by omega) (show _ ≤ 25600 by omega) ⟨_, rfl, rfl, ⟨⟨by show 216 ≤ L.toNat; omega, by show L.toNat ≤ 6400; omega, by show pM nc ≤ L.toNat; omega⟩, fun _ => gin0, fun _ => gin0, fun _ => ⟨by show (-9223372036854775808 : Int) ≤ 0; decide, by show (0 : Int) < 9223372036854775808; decide⟩, fun _ => gin0⟩, by show m ≤ (L.toNat : Int); omega, by show pC nc ≤ L.toNat; omega, by show _ ≤ L.toNat - pC nc; omega, by show _ ≤ 8 * (L.toNat - pC nc); omega⟩

abbrev rm_PN_usedBy : Room := { frames := 2, cells := 0, slots := 0, locals := 46 }
set_option maxHeartbeats 4000000 in
set_option maxRecDepth 100000 in
theorem c_PN_usedBy (l : Launch) (E : gE) (n s : Nat) (nc : PnT) (nk : pnOK nc) (sc : ScT) (sk : scOK sc) (t : Nat) (tc : RowT) (tk : rowOK tc) (k : Nat) (σ : Nat → Nat) (hm : mea tc σ) (hs : scFor sc tc) (hk : k < rN tc) (hmt : mat (sO sc) (env (rF tc) k)) (hcl : clo (rF tc) (rG tc) 200 k) (hca : 200 + rN tc ≤ pC nc) : CtI l E y_PN_usedBy b_PN_usedBy 5 (some .int) rm_PN_usedBy [.ref n, .int (iI (k : Int)), .ref t] (pnW E n s nc ++ scW E s sc ++ rowW E t tc) (useP (rF tc) (rG tc) k) := by
  obtain ⟨⟨n1, n2, n3⟩, nx, ny, nz, nu⟩ := id nk
  obtain ⟨⟨t1, t2, t3, t4⟩, tf, tg, th⟩ := id tk
  have ed := hs.d hk
  have zs := hs.1
  have dk : dep (rF tc) k ≤ k := env_le hm.1 hm.2.1 hk
  have e1 : rK tc (k : Int) = rF tc k := rK_t (by omega)
  have e2 : rB tc (k : Int) = rG tc k := rB_t (by omega)
  have r1 := tf k
  have r2 := tg k
  obtain ⟨l1, l2⟩ := hcl
  refine g_start (by decide) (Nat.le_of_ble_eq_true rfl) (fun X hX hE hin => ?_)
  refine g_ldc2 (pc := 0) hX (-1) w_366 (by decide) d_PN_usedBy_0 ?_
  refine g_lstore_n (pc := 3) hX 3 d_PN_usedBy_3 rfl (by decide) ?_
  refine g_aload_n (pc := 4) hX 2 d_PN_usedBy_4 rfl rfl ?_
  refine g_iload_n (pc := 5) hX 1 d_PN_usedBy_5 rfl rfl ?_
  refine g_iV (pc := 6) hX (c_RW_kind l E t tc tk _ (by omega)) gy_RW_kind gv_RW_kind w_367 rfl (by decide) (by decide) [9, 10, 11, 12] rfl (by decide +kernel) rfl rfl rfl _ rfl (Nat.le_of_ble_eq_true rfl) d_PN_usedBy_6 (by decide) (by decide) ?_
  rw [e1]
  refine g_bipush (pc := 9) hX 7 d_PN_usedBy_9 (by decide) ?_
  refine g_icmp_ne (pc := 11) (tgt := 23) hX d_PN_usedBy_11 (by decide) (by omega) (by omega) (fun c_1 => ?_) (fun c_1 => ?_)
  · refine g_aload_n (pc := 23) hX 2 d_PN_usedBy_23 rfl rfl ?_
    refine g_iload_n (pc := 24) hX 1 d_PN_usedBy_24 rfl rfl ?_
    refine g_iV (pc := 25) hX (c_RW_kind l E t tc tk _ (by omega)) gy_RW_kind gv_RW_kind w_367 rfl (by decide) (by decide) [9, 10, 11, 12] rfl (by decide +kernel) rfl rfl rfl _ rfl (Nat.le_of_ble_eq_true rfl) d_PN_usedBy_25 (by decide) (by decide) ?_
    rw [e1]
    refine g_if_ne (pc := 28) (tgt := 50) hX d_PN_usedBy_28 (by decide) (by omega) (fun c_2 => ?_) (fun c_2 => ?_)
    · refine g_lload_n (pc := 50) hX 3 d_PN_usedBy_50 rfl rfl ?_
      refine g_lconst (pc := 51) hX 0 d_PN_usedBy_51 (by decide) ?_
      refine g_lcmp_lt (pc := 52) (tgt := 72) hX d_PN_usedBy_52 d_PN_usedBy_53 (by decide) (by omega) (by omega) (fun c_3 => ?_) (fun c_3 => ?_)
      · refine g_iconst (pc := 72) hX d_PN_usedBy_72 ?_
        exact g_iret (pc := 73) hX hE d_PN_usedBy_73 (by decide) (by decide) ⟨by unfold useP; rw [if_neg (by omega), if_neg (by omega)], rfl, rfl, rfl⟩
      · exfalso; omega
    · obtain ⟨w1, w2⟩ := l1 (by omega)
      obtain ⟨u1, u2⟩ := hs.op sk hm hk hmt (i := (rG tc k).toNat) (by omega)
      rw [show (((rG tc k).toNat : Nat) : Int) = rG tc k by omega] at u1
      refine g_sipush (pc := 31) hX 200 d_PN_usedBy_31 (by decide) ?_
      refine g_aload_n (pc := 34) hX 0 d_PN_usedBy_34 rfl rfl ?_
      refine g_get (pc := 35) hX f_PN_12 0 rfl rfl d_PN_usedBy_35 ?_
      refine g_iload_n (pc := 38) hX 1 d_PN_usedBy_38 rfl rfl ?_
      refine g_aload_n (pc := 39) hX 2 d_PN_usedBy_39 rfl rfl ?_
      refine g_iload_n (pc := 40) hX 1 d_PN_usedBy_40 rfl rfl ?_
      refine g_lV (pc := 41) hX (c_RW_beside l E t tc tk _ (by omega)) gy_RW_beside gv_RW_beside w_368 rfl (by decide) (by decide) [9, 10, 11, 12] rfl (by decide +kernel) rfl rfl rfl _ rfl (Nat.le_of_ble_eq_true rfl) d_PN_usedBy_41 (by decide) (by decide) ?_
      rw [e2]
      refine g_iV (pc := 44) hX (c_SC_binderOf l E s sc sk _ (by omega) _ (by omega) (by omega)) gy_SC_binderOf gv_SC_binderOf w_369 rfl (by decide) (by decide) [5, 6, 7, 8] rfl (by decide +kernel) rfl rfl rfl _ rfl (Nat.le_of_ble_eq_true rfl) d_PN_usedBy_44 (by decide) (by decide) ?_
      rw [ed, u1]
      refine g_iadd (pc := 47) hX d_PN_usedBy_47 ?_
      refine g_i2l (pc := 48) hX d_PN_usedBy_48 (by omega) ?_
      refine g_lstore_n (pc := 49) hX 3 d_PN_usedBy_49 rfl (by decide) ?_
      refine g_lload_n (pc := 50) hX 3 d_PN_usedBy_50 rfl rfl ?_
      refine g_lconst (pc := 51) hX 0 d_PN_usedBy_51 (by decide) ?_
      refine g_lcmp_lt (pc := 52) (tgt := 72) hX d_PN_usedBy_52 d_PN_usedBy_53 (by decide) (by omega) (by omega) (fun c_4 => ?_) (fun c_4 => ?_)
      · exfalso; omega
      · refine g_lload_n (pc := 56) hX 3 d_PN_usedBy_56 rfl rfl ?_
        refine g_aload_n (pc := 57) hX 0 d_PN_usedBy_57 rfl rfl ?_
        refine g_get (pc := 58) hX f_PN_22 0 rfl rfl d_PN_usedBy_58 ?_
        refine g_alenI (pc := 61) hX 2 rfl d_PN_usedBy_61 ?_
        refine g_i2l (pc := 62) hX d_PN_usedBy_62 (by omega) ?_
        refine g_lcmp_ge (pc := 63) (tgt := 72) hX d_PN_usedBy_63 d_PN_usedBy_64 (by decide) (by omega) (by omega) (fun c_5 => ?_) (fun c_5 => ?_)
        · exfalso; omega
        · refine g_lload_n (pc := 67) hX 3 d_PN_usedBy_67 rfl rfl ?_
          refine g_l2i (pc := 68) hX d_PN_usedBy_68 ?_
          refine g_goto (pc := 69) (tgt := 73) hX d_PN_usedBy_69 (by decide) ?_
          exact g_iret (pc := 73) hX hE d_PN_usedBy_73 (by decide) (by decide) ⟨by unfold useP; rw [if_neg (by omega), if_pos (by omega)], rfl, rfl, rfl⟩
  · obtain ⟨w1, w2⟩ := l2 (by omega)
    refine g_aload_n (pc := 14) hX 2 d_PN_usedBy_14 rfl rfl ?_
    refine g_iload_n (pc := 15) hX 1 d_PN_usedBy_15 rfl rfl ?_
    refine g_lV (pc := 16) hX (c_RW_beside l E t tc tk _ (by omega)) gy_RW_beside gv_RW_beside w_368 rfl (by decide) (by decide) [9, 10, 11, 12] rfl (by decide +kernel) rfl rfl rfl _ rfl (Nat.le_of_ble_eq_true rfl) d_PN_usedBy_16 (by decide) (by decide) ?_
    rw [e2]
    refine g_lstore_n (pc := 19) hX 3 d_PN_usedBy_19 rfl (by decide) ?_
    refine g_goto (pc := 20) (tgt := 50) hX d_PN_usedBy_20 (by decide) ?_
    refine g_lload_n (pc := 50) hX 3 d_PN_usedBy_50 rfl rfl ?_
    refine g_lconst (pc := 51) hX 0 d_PN_usedBy_51 (by decide) ?_
    refine g_lcmp_lt (pc := 52) (tgt := 72) hX d_PN_usedBy_52 d_PN_usedBy_53 (by decide) (by omega) (by omega) (fun c_6 => ?_) (fun c_6 => ?_)
    · exfalso; omega
    · refine g_lload_n (pc := 56) hX 3 d_PN_usedBy_56 rfl rfl ?_
      refine g_aload_n (pc := 57) hX 0 d_PN_usedBy_57 rfl rfl ?_
      refine g_get (pc := 58) hX f_PN_22 0 rfl rfl d_PN_usedBy_58 ?_
      refine g_alenI (pc := 61) hX 2 rfl d_PN_usedBy_61 ?_
      refine g_i2l (pc := 62) hX d_PN_usedBy_62 (by omega) ?_
      refine g_lcmp_ge (pc := 63) (tgt := 72) hX d_PN_usedBy_63 d_PN_usedBy_64 (by decide) (by omega) (by omega) (fun c_7 => ?_) (fun c_7 => ?_)
      · exfalso; omega
      · refine g_lload_n (pc := 67) hX 3 d_PN_usedBy_67 rfl rfl ?_
        refine g_l2i (pc := 68) hX d_PN_usedBy_68 ?_
        refine g_goto (pc := 69) (tgt := 73) hX d_PN_usedBy_69 (by decide) ?_
        exact g_iret (pc := 73) hX hE d_PN_usedBy_73 (by decide) (by decide) ⟨by unfold useP; rw [if_pos (by omega)], rfl, rfl, rfl⟩
