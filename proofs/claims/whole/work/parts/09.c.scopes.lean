abbrev rm_SC_makeRoom : Room := { frames := 2, cells := 3, slots := 19200, locals := 42 }
set_option maxHeartbeats 4000000 in
set_option maxRecDepth 100000 in
theorem c_SC_makeRoom (l : Launch) (E : gE) (s : Nat) (sc : ScT) (sk : scOK sc) (m : Int) (hm : gin m) (h0 : m ≤ 3000) : Ct l E y_SC_makeRoom b_SC_makeRoom 3 none rm_SC_makeRoom [.ref s, .int (iI m)] (scW E s sc) (fun v w dc ds => ∃ ς, v = none ∧ w = scW E s ς ∧ scOK ς ∧ (sN ς = sN sc ∧ m ≤ sC ς ∧ sGrow sc ς dc ds)) := by
  obtain ⟨⟨s1, s2, s3, s4⟩, si, sd, so⟩ := id sk
  refine g_start (by decide) (Nat.le_of_ble_eq_true rfl) (fun X hX hE hin => ?_)
  refine g_iload_n (pc := 0) hX 1 d_SC_makeRoom_0 rfl rfl ?_
  refine g_aload_n (pc := 1) hX 0 d_SC_makeRoom_1 rfl rfl ?_
  refine g_get (pc := 2) hX f_SC_19 0 rfl rfl d_SC_makeRoom_2 ?_
  refine g_alenI (pc := 5) hX 2 rfl d_SC_makeRoom_5 ?_
  refine g_icmp_le (pc := 6) (tgt := 40) hX d_SC_makeRoom_6 (by decide) (by omega) (by omega) (fun c_1 => ?_) (fun c_1 => ?_)
  · exact g_vret (pc := 40) hX hE d_SC_makeRoom_40 (show _ ≤ 3 by omega) (show _ ≤ 19200 by omega) ⟨sc, rfl, rfl, sk, rfl, by omega, sGrow.rf sc⟩
  · refine g_aload_n (pc := 9) hX 0 d_SC_makeRoom_9 rfl rfl ?_
    refine g_get (pc := 10) hX f_SC_19 0 rfl rfl d_SC_makeRoom_10 ?_
    refine g_alenI (pc := 13) hX 2 rfl d_SC_makeRoom_13 ?_
    refine g_iload_n (pc := 14) hX 1 d_SC_makeRoom_14 rfl rfl ?_
    refine g_iSN (pc := 15) hX (c_NS_longer l E _ (by omega) _ (by omega) (by omega)) gy_NS_longer w_169 n_245 rfl (by decide) (by decide) [] rfl rfl _ rfl (Nat.le_of_ble_eq_true rfl) d_SC_makeRoom_15 (show _ + 0 ≤ 3 by omega) (show _ + 0 ≤ 19200 by omega) ?_
    obtain ⟨L, hL⟩ : ∃ L : Int, L = if m < 2 * (sC sc : Int) then 2 * (sC sc : Int) else m := ⟨_, rfl⟩
    rw [← hL]
    have hL2 : m ≤ L ∧ 2 * (sC sc : Int) ≤ L ∧ L ≤ 6000 := by rw [hL]; split <;> omega
    refine g_istore_n (pc := 18) hX 2 d_SC_makeRoom_18 rfl (by decide) ?_
    refine g_aload_n (pc := 19) hX 0 d_SC_makeRoom_19 rfl rfl ?_
    refine g_iload_n (pc := 20) hX 2 d_SC_makeRoom_20 rfl rfl ?_
    refine g_newI (pc := 21) hX w_52 (by omega) (by omega) (show _ + 1 ≤ 3 by omega) (show _ + _ ≤ 19200 by omega) d_SC_makeRoom_21 (fun q21 => ?_)
    refine g_put (pc := 23) hX f_SC_15 gt_SC 0 rfl rfl rfl rfl (Nat.le_of_ble_eq_true rfl) d_SC_makeRoom_23 ?_
    refine g_aload_n (pc := 26) hX 0 d_SC_makeRoom_26 rfl rfl ?_
    refine g_iload_n (pc := 27) hX 2 d_SC_makeRoom_27 rfl rfl ?_
    refine g_newI (pc := 28) hX w_52 (by omega) (by omega) (show _ + 1 ≤ 3 by omega) (show _ + _ ≤ 19200 by omega) d_SC_makeRoom_28 (fun q28 => ?_)
    refine g_put (pc := 30) hX f_SC_19 gt_SC 0 rfl rfl rfl rfl (Nat.le_of_ble_eq_true rfl) d_SC_makeRoom_30 ?_
    refine g_aload_n (pc := 33) hX 0 d_SC_makeRoom_33 rfl rfl ?_
    refine g_iload_n (pc := 34) hX 2 d_SC_makeRoom_34 rfl rfl ?_
    refine g_newI (pc := 35) hX w_52 (by omega) (by omega) (show _ + 1 ≤ 3 by omega) (show _ + _ ≤ 19200 by omega) d_SC_makeRoom_35 (fun q35 => ?_)
    refine g_put (pc := 37) hX f_SC_22 gt_SC 0 rfl rfl rfl rfl (Nat.le_of_ble_eq_true rfl) d_SC_makeRoom_37 ?_
    refine g_sub (scW E s (((q21, q28, q35), sN sc, L.toNat, fun _ => 0, fun _ => 0, fun _ => 0) : ScT)) [0, 4, 5, 6] rfl rfl ?_
    exact g_vret (pc := 40) hX hE d_SC_makeRoom_40 (show _ ≤ 3 by omega) (show _ ≤ 19200 by omega) ⟨_, rfl, rfl, ⟨⟨by show sN sc ≤ 3000; omega, by show sN sc ≤ L.toNat; omega, by show 16 ≤ L.toNat; omega, by show L.toNat ≤ 6000; omega⟩, fun _ => gin0, fun _ => ⟨Int.le_refl 0, by show (0 : Int) ≤ 3000; decide⟩, fun _ => gin0⟩, rfl, by show m ≤ (L.toNat : Int); omega, by show sC sc ≤ L.toNat; omega, by show _ ≤ L.toNat - sC sc; omega, by show _ ≤ 6 * (L.toNat - sC sc); omega⟩

abbrev rm_SC_init : Room := { frames := 1, cells := 3, slots := 48, locals := 20 }
set_option maxHeartbeats 4000000 in
set_option maxRecDepth 100000 in
theorem c_SC_init (l : Launch) (E : gE) (s : Nat) : Ct l E y_SC_init b_SC_init 1 none rm_SC_init [.ref s] ([(s, .inr (3, [.int 0, .null, .null, .null]))]) (fun v w dc ds => ∃ ς, v = none ∧ w = scW E s ς ∧ scOK ς ∧ (sN ς = 0 ∧ sC ς = 16 ∧ dc = 3 ∧ ds = 48)) := by
  refine g_start (by decide) (Nat.le_of_ble_eq_true rfl) (fun X hX hE hin => ?_)
  replace hin := hin rfl
  refine g_aload_n (pc := 0) hX 0 d_SC_init_0 rfl rfl ?_
  refine g_objInit (pc := 1) hX w_58 w_17 w_18 (by decide) (by decide) (Nat.le_of_ble_eq_true rfl) d_SC_init_1 ?_
  refine g_aload_n (pc := 4) hX 0 d_SC_init_4 rfl rfl ?_
  refine g_iconst (pc := 5) hX d_SC_init_5 ?_
  refine g_put (pc := 6) hX f_SC_9 gt_SC 0 rfl rfl rfl rfl (Nat.le_of_ble_eq_true rfl) d_SC_init_6 ?_
  refine g_aload_n (pc := 9) hX 0 d_SC_init_9 rfl rfl ?_
  refine g_bipush (pc := 10) hX 16 d_SC_init_10 (by decide) ?_
  refine g_newI (pc := 12) hX w_52 (by omega) (by omega) (by decide) (by decide) d_SC_init_12 (fun q12 => ?_)
  refine g_put (pc := 14) hX f_SC_15 gt_SC 0 rfl rfl rfl rfl (Nat.le_of_ble_eq_true rfl) d_SC_init_14 ?_
  refine g_aload_n (pc := 17) hX 0 d_SC_init_17 rfl rfl ?_
  refine g_bipush (pc := 18) hX 16 d_SC_init_18 (by decide) ?_
  refine g_newI (pc := 20) hX w_52 (by omega) (by omega) (by decide) (by decide) d_SC_init_20 (fun q20 => ?_)
  refine g_put (pc := 22) hX f_SC_19 gt_SC 0 rfl rfl rfl rfl (Nat.le_of_ble_eq_true rfl) d_SC_init_22 ?_
  refine g_aload_n (pc := 25) hX 0 d_SC_init_25 rfl rfl ?_
  refine g_bipush (pc := 26) hX 16 d_SC_init_26 (by decide) ?_
  refine g_newI (pc := 28) hX w_52 (by omega) (by omega) (by decide) (by decide) d_SC_init_28 (fun q28 => ?_)
  refine g_put (pc := 30) hX f_SC_22 gt_SC 0 rfl rfl rfl rfl (Nat.le_of_ble_eq_true rfl) d_SC_init_30 ?_
  refine g_sub (scW E s (((q12, q20, q28), 0, 16, fun _ => 0, fun _ => 0, fun _ => 0) : ScT)) [0, 1, 2, 3] rfl rfl ?_
  exact g_vret (pc := 33) hX hE d_SC_init_33 (by decide) (by decide) ⟨_, rfl, rfl, ⟨⟨by show (0 : Nat) ≤ 3000; decide, by show (0 : Nat) ≤ 16; decide, by show (16 : Nat) ≤ 16; decide, by show (16 : Nat) ≤ 6000; decide⟩, fun _ => gin0, fun _ => ⟨Int.le_refl 0, by show (0 : Int) ≤ 3000; decide⟩, fun _ => gin0⟩, rfl, rfl, rfl, rfl⟩

abbrev rm_SC_indexOf : Room := { frames := 2, cells := 0, slots := 0, locals := 42 }
set_option maxHeartbeats 4000000 in
set_option maxRecDepth 100000 in
theorem c_SC_indexOf (l : Launch) (E : gE) (s : Nat) (sc : ScT) (sk : scOK sc) (x : Int) (hx : gil x) (r : Nat) (rc : RowT) (rk : rowOK rc) (k : Int) (hk : gin k) : CtI l E y_SC_indexOf b_SC_indexOf 7 (some .int) rm_SC_indexOf [.ref s, .long (lI x), .ref r, .int (iI k)] (scW E s sc ++ rowW E r rc) (fnd (zD sc k).toNat (fun i => rB rc (zO sc (zD sc k - 1 - i))) x) := by
  obtain ⟨⟨s1, s2, s3, s4⟩, si, sd, so⟩ := id sk
  obtain ⟨⟨r1, r2, r3, r4⟩, rf, rg, rh⟩ := id rk
  have zd := zD_in sk k
  refine g_start (by decide) (Nat.le_of_ble_eq_true rfl) (fun X hX hE hin => ?_)
  refine g_aload_n (pc := 0) hX 0 d_SC_indexOf_0 rfl rfl ?_
  refine g_iload (pc := 1) hX d_SC_indexOf_1 rfl ?_
  refine g_iV (pc := 3) hX (c_SC_depth l E s sc sk _ (by omega)) gy_SC_depth gv_SC_depth w_250 rfl (by decide) (by decide) [0, 1, 2, 3] rfl rfl rfl rfl rfl _ rfl (Nat.le_of_ble_eq_true rfl) d_SC_indexOf_3 (by decide) (by decide) ?_
  refine g_istore (pc := 6) hX d_SC_indexOf_6 (by decide) ?_
  refine g_iconst (pc := 8) hX d_SC_indexOf_8 ?_
  refine g_istore (pc := 9) hX d_SC_indexOf_9 (by decide) ?_
  have loop : ∀ (d : Nat) (j : Nat), zD sc k < j + d → j ≤ zD sc k → (∀ i : Nat, i < j → rB rc (zO sc (zD sc k - 1 - i)) ≠ x) → gW X (scW E s sc ++ rowW E r rc) 0 0 11 [(0, .ref s), (1, .long (lI x)), (3, .ref r), (5, .int (iI (zD sc k))), (6, .int (iI (j : Int)))] [] := by
    intro d
    induction d with
    | zero => intro j hd hj hi; omega
    | succ d ih =>
      intro j hd hj hi
      refine g_iload (pc := 11) hX d_SC_indexOf_11 rfl ?_
      refine g_iload (pc := 13) hX d_SC_indexOf_13 rfl ?_
      refine g_icmp_ge (pc := 15) (tgt := 47) hX d_SC_indexOf_15 (by decide) (by omega) (by omega) (fun c_1 => ?_) (fun c_1 => ?_)
      · refine g_iconst (pc := 47) hX d_SC_indexOf_47 ?_
        exact g_iret (pc := 48) hX hE d_SC_indexOf_48 (by decide) (by decide) ⟨by rw [fnd_none (fun i q => hi i (by omega))], rfl, rfl, rfl⟩
      · refine g_aload_n (pc := 18) hX 3 d_SC_indexOf_18 rfl rfl ?_
        refine g_aload_n (pc := 19) hX 0 d_SC_indexOf_19 rfl rfl ?_
        refine g_iload (pc := 20) hX d_SC_indexOf_20 rfl ?_
        refine g_iconst (pc := 22) hX d_SC_indexOf_22 ?_
        refine g_isub (pc := 23) hX d_SC_indexOf_23 ?_
        refine g_iload (pc := 24) hX d_SC_indexOf_24 rfl ?_
        refine g_isub (pc := 26) hX d_SC_indexOf_26 ?_
        refine g_iV (pc := 27) hX (c_SC_open l E s sc sk _ (by omega)) gy_SC_open gv_SC_open w_287 rfl (by decide) (by decide) [0, 1, 2, 3] rfl rfl rfl rfl rfl _ rfl (Nat.le_of_ble_eq_true rfl) d_SC_indexOf_27 (by decide) (by decide) ?_
        have q1 := zO_in sk (zD sc k - 1 - (j : Int))
        have q2 := rB_in rk (zO sc (zD sc k - 1 - (j : Int)))
        refine g_lV (pc := 30) hX (c_RW_beside l E r rc rk _ (by omega)) gy_RW_beside gv_RW_beside w_291 rfl (by decide) (by decide) [4, 5, 6, 7] rfl rfl rfl rfl rfl _ rfl (Nat.le_of_ble_eq_true rfl) d_SC_indexOf_30 (by decide) (by decide) ?_
        refine g_lload_n (pc := 33) hX 1 d_SC_indexOf_33 rfl rfl ?_
        refine g_lcmp_ne (pc := 34) (tgt := 41) hX d_SC_indexOf_34 d_SC_indexOf_35 (by decide) (by omega) (by omega) (fun c_2 => ?_) (fun c_2 => ?_)
        · refine g_iinc (pc := 41) hX d_SC_indexOf_41 (by decide) rfl ?_
          refine g_goto (pc := 44) (tgt := 11) hX d_SC_indexOf_44 (by decide) ?_
          refine g_lv [(0, .ref s), (1, .long (lI x)), (3, .ref r), (5, .int (iI (zD sc k))), (6, .int (iI ((j + 1 : Nat) : Int)))] ⟨rfl, rfl, rfl, rfl, rfl, trivial⟩ ?_
          exact ih (j + 1) (by omega) (by omega) (fun i q => by
            by_cases e : i = j
            · subst e; exact c_2
            · exact hi i (by omega))
        · refine g_iload (pc := 38) hX d_SC_indexOf_38 rfl ?_
          exact g_iret (pc := 40) hX hE d_SC_indexOf_40 (by decide) (by decide) ⟨by rw [fnd_at (g := j) hi (by omega) (Decidable.not_not.mp c_2)], rfl, rfl, rfl⟩
  refine g_lv [(0, .ref s), (1, .long (lI x)), (3, .ref r), (5, .int (iI (zD sc k))), (6, .int (iI ((0 : Nat) : Int)))] ⟨rfl, rfl, rfl, rfl, rfl, trivial⟩ ?_
  exact loop 3001 0 (by omega) (by omega) (fun i q => by omega)
  
