abbrev rm_PN_chooseName : Room := { frames := 3, cells := 0, slots := 0, locals := 75 }
set_option maxHeartbeats 4000000 in
set_option maxRecDepth 100000 in
theorem c_PN_chooseName (l : Launch) (E : gE) (n s : Nat) (nc : PnT) (nk : pnOK nc) (g : Nat) (gc : GlT) (gk : glOK gc) (sc : ScT) (sk : scOK sc) (t : Nat) (tc : RowT) (tk : rowOK tc) (p : Nat) (pc : RowT) (pk : rowOK pc) (b : Nat) (σ : Nat → Nat) (hm : mea tc σ) (hs : scFor sc tc) (hb : b < rN tc ∧ b ≤ rN pc ∧ 0 ≤ rG tc b ∧ rG tc b < 2147483648) (hmt : mat (sO sc) (env (rF tc) b)) (hgn : ∀ i, i < uN gc → 0 ≤ uF gc i) (hpn : ∀ i, i < rN pc → 0 ≤ rG pc i) (hca : 200 + rN tc ≤ pC nc) : Ct l E y_PN_chooseName b_PN_chooseName 8 (some .long) rm_PN_chooseName [.ref n, .int (iI (b : Int)), .ref t, .ref g, .ref p] (pnW E n s nc ++ glW E g gc ++ scW E s sc ++ rowW E t tc ++ rowW E p pc) (fun vv ww dc ds => ∃ π, ∃ r : Int, vv = some (.long (lI r)) ∧ ww = pnW E n s π ++ glW E g gc ++ scW E s sc ++ rowW E t tc ++ rowW E p pc ∧ pnOK π ∧ ((pC π = pC nc ∧ pX π = pX nc ∧ pL π = pL nc) ∧ (0 ≤ r ∧ gil r) ∧ chs (ownN (rG tc b)) (nearL (pX nc) ((b + σ b : Nat) : Int) (uN gc) (uF gc) (env (rF tc) b) (rG pc)) r ∧ dc = 0 ∧ ds = 0)) := by
  obtain ⟨⟨n1, n2, n3⟩, nx, ny, nz, nu⟩ := id nk
  obtain ⟨g1, g2⟩ := id gk
  obtain ⟨⟨s1, s2, s3, s4⟩, si, sd, so⟩ := id sk
  obtain ⟨⟨t1, t2, t3, t4⟩, tf, tg, th⟩ := id tk
  obtain ⟨⟨p1, p2, p3, p4⟩, pf, pg, ph⟩ := id pk
  obtain ⟨b1, b2, b3, b4⟩ := hb
  have ed := hs.d b1
  have zs := hs.1
  have db : dep (rF tc) b ≤ b := env_le hm.1 hm.2.1 b1
  have db2 : (env (rF tc) b).length ≤ b := db
  obtain ⟨z4, z5⟩ := hm.en b1
  have es := hm.sz b1
  have eb : rB tc (b : Int) = rG tc b := rB_t (by (first | omega | (dsimp only [rN, rC, rF, rG, rH, rA, sN, sC, sI, sD, sO, sA, uN, uF, pA, pC, pX, pL, pR, pK, pM] at *; omega)))
  have how : 0 ≤ (ownN (rG tc b)) ∧ (ownN (rG tc b)) < 2147483648 := by unfold ownN; split <;> (first | omega | (dsimp only [rN, rC, rF, rG, rH, rA, sN, sC, sI, sD, sO, sA, uN, uF, pA, pC, pX, pL, pR, pK, pM] at *; omega))
  have hevb : ∀ q ∈ env (rF tc) b, q < b := fun q hq => (env_bP hm.1 hm.2.1 b b (Nat.le_refl _) b1 q hq).1
  refine g_start (by decide) (Nat.le_of_ble_eq_true rfl) (fun X hX hE hin => ?_)
  refine g_aload_n (pc := 0) hX 2 d_PN_chooseName_0 rfl rfl ?_
  refine g_iload_n (pc := 1) hX 1 d_PN_chooseName_1 rfl rfl ?_
  refine g_lV (pc := 2) hX (c_RW_beside l E t tc tk _ (by (first | omega | (dsimp only [rN, rC, rF, rG, rH, rA, sN, sC, sI, sD, sO, sA, uN, uF, pA, pC, pX, pL, pR, pK, pM] at *; omega)))) gy_RW_beside gv_RW_beside w_368 rfl (by decide) (by decide) [11, 12, 13, 14] rfl (by decide +kernel) rfl rfl rfl _ rfl (Nat.le_of_ble_eq_true rfl) d_PN_chooseName_2 (by decide) (by decide) ?_
  rw [eb]
  refine g_lconst (pc := 5) hX 0 d_PN_chooseName_5 (by decide) ?_
  refine g_lcmp_ne (pc := 6) (tgt := 16) hX d_PN_chooseName_6 d_PN_chooseName_7 (by decide) (by (first | omega | (dsimp only [rN, rC, rF, rG, rH, rA, sN, sC, sI, sD, sO, sA, uN, uF, pA, pC, pX, pL, pR, pK, pM] at *; omega))) (by (first | omega | (dsimp only [rN, rC, rF, rG, rH, rA, sN, sC, sI, sD, sO, sA, uN, uF, pA, pC, pX, pL, pR, pK, pM] at *; omega))) (fun c_1 => ?_) (fun c_1 => ?_)
  · refine g_aload_n (pc := 16) hX 2 d_PN_chooseName_16 rfl rfl ?_
    refine g_iload_n (pc := 17) hX 1 d_PN_chooseName_17 rfl rfl ?_
    refine g_lV (pc := 18) hX (c_RW_beside l E t tc tk _ (by (first | omega | (dsimp only [rN, rC, rF, rG, rH, rA, sN, sC, sI, sD, sO, sA, uN, uF, pA, pC, pX, pL, pR, pK, pM] at *; omega)))) gy_RW_beside gv_RW_beside w_368 rfl (by decide) (by decide) [11, 12, 13, 14] rfl (by decide +kernel) rfl rfl rfl _ rfl (Nat.le_of_ble_eq_true rfl) d_PN_chooseName_18 (by decide) (by decide) ?_
    refine g_st (.long (lI (ownN (rG tc b))) :: []) (by rw [show (ownN (rG tc b)) = rG tc b from if_neg (by (first | omega | (dsimp only [rN, rC, rF, rG, rH, rA, sN, sC, sI, sD, sO, sA, uN, uF, pA, pC, pX, pL, pR, pK, pM] at *; omega))), eb] <;> rfl) ?_
    refine g_lstore (pc := 21) hX d_PN_chooseName_21 (by decide) ?_
    refine g_aload_n (pc := 23) hX 0 d_PN_chooseName_23 rfl rfl ?_
    refine g_iload_n (pc := 24) hX 1 d_PN_chooseName_24 rfl rfl ?_
    refine g_aload_n (pc := 25) hX 2 d_PN_chooseName_25 rfl rfl ?_
    refine g_iload_n (pc := 26) hX 1 d_PN_chooseName_26 rfl rfl ?_
    refine g_iV (pc := 27) hX (c_RW_end l E t tc tk _ (by (first | omega | (dsimp only [rN, rC, rF, rG, rH, rA, sN, sC, sI, sD, sO, sA, uN, uF, pA, pC, pX, pL, pR, pK, pM] at *; omega)))) gy_RW_end gv_RW_end w_385 rfl (by decide) (by decide) [11, 12, 13, 14] rfl (by decide +kernel) rfl rfl rfl _ rfl (Nat.le_of_ble_eq_true rfl) d_PN_chooseName_27 (by decide) (by decide) ?_
    refine g_st (.int (iI ((b + σ b : Nat) : Int)) :: .int (iI (b : Int)) :: .ref n :: []) (by rw [es] <;> rfl) ?_
    refine g_aload_n (pc := 30) hX 3 d_PN_chooseName_30 rfl rfl ?_
    refine g_aload (pc := 31) hX d_PN_chooseName_31 rfl ?_
    refine g_callV (pc := 33) hX (c_PN_gatherNear l E n s nc nk g gc gk sc sk p pc pk b (b + σ b) (env (rF tc) b) ⟨hmt, ed, hevb, by (first | omega | (dsimp only [rN, rC, rF, rG, rH, rA, sN, sC, sI, sD, sO, sA, uN, uF, pA, pC, pX, pL, pR, pK, pM] at *; omega)), by (first | omega | (dsimp only [rN, rC, rF, rG, rH, rA, sN, sC, sI, sD, sO, sA, uN, uF, pA, pC, pX, pL, pR, pK, pM] at *; omega)), by (first | omega | (dsimp only [rN, rC, rF, rG, rH, rA, sN, sC, sI, sD, sO, sA, uN, uF, pA, pC, pX, pL, pR, pK, pM] at *; omega)), db, by show dep (rF tc) b ≤ sC sc; (first | omega | (dsimp only [rN, rC, rF, rG, rH, rA, sN, sC, sI, sD, sO, sA, uN, uF, pA, pC, pX, pL, pR, pK, pM] at *; omega)), by (first | omega | (dsimp only [rN, rC, rF, rG, rH, rA, sN, sC, sI, sD, sO, sA, uN, uF, pA, pC, pX, pL, pR, pK, pM] at *; omega))⟩) gy_PN_gatherNear gv_PN_gatherNear w_386 rfl (by decide) (by decide) [0, 1, 2, 3, 4, 5, 6, 7, 8, 9, 10, 15, 16, 17, 18] rfl (by decide +kernel) rfl rfl rfl _ rfl (Nat.le_of_ble_eq_true rfl) d_PN_chooseName_33 (by decide) (by decide) (fun _ _ _ _ h => by obtain ⟨_, _, h2, _⟩ := h; rw [h2]; exact Nat.le_of_ble_eq_true rfl) (fun v w dc_2 ds_2 hp => ?_)
    obtain ⟨n_2, rfl, rfl, nk_2, ⟨f_2_1, f_2_2, f_2_3, f_2_4⟩, f_2_5, rfl, rfl⟩ := hp
    refine g_wsP (pnW E n s n_2 ++ glW E g gc ++ scW E s sc ++ rowW E t tc ++ rowW E p pc) rfl rfl ?_
    obtain ⟨⟨m1, m2, m3⟩, mx, my, mz, mu⟩ := id nk_2
    obtain ⟨l1, l2⟩ := LR_get f_2_5
    have hnn : ∀ i, i < pM n_2 → 0 ≤ pR n_2 i := fun i hi => by
      rw [l2 i hi]
      exact near_nn hgn hpn (fun q hq => by have := hevb q hq; (first | omega | (dsimp only [rN, rC, rF, rG, rH, rA, sN, sC, sI, sD, sO, sA, uN, uF, pA, pC, pX, pL, pR, pK, pM] at *; omega))) i (by (first | omega | (dsimp only [rN, rC, rF, rG, rH, rA, sN, sC, sI, sD, sO, sA, uN, uF, pA, pC, pX, pL, pR, pK, pM] at *; omega)))
    have l3 : pM n_2 ≤ 3200 := by
      rw [← l1]; unfold nearL; rw [List.length_append]
      have y1 := gpL_len (pX nc) ((b + σ b : Nat) : Int) (uF gc) (uN gc)
      have y2 := opL_len (pX nc) ((b + σ b : Nat) : Int) (env (rF tc) b) (rG pc) (env (rF tc) b).length
      (first | omega | (dsimp only [rN, rC, rF, rG, rH, rA, sN, sC, sI, sD, sO, sA, uN, uF, pA, pC, pX, pL, pR, pK, pM] at *; omega))
    refine g_iconst (pc := 36) hX d_PN_chooseName_36 ?_
    refine g_istore (pc := 37) hX d_PN_chooseName_37 (by decide) ?_
    have loop : ∀ (d : Nat) (i : Nat), pM n_2 < i + d → i ≤ pM n_2 → (∀ j, j < i → pR n_2 j ≠ (ownN (rG tc b))) → gW X (pnW E n s n_2 ++ glW E g gc ++ scW E s sc ++ rowW E t tc ++ rowW E p pc) 0 0 39 [(0, .ref n), (5, .long (lI (ownN (rG tc b)))), (7, .int (iI (i : Int)))] [] := by
      intro d
      induction d with
      | zero => intro i hfu hi hne; (first | omega | (dsimp only [rN, rC, rF, rG, rH, rA, sN, sC, sI, sD, sO, sA, uN, uF, pA, pC, pX, pL, pR, pK, pM] at *; omega))
      | succ d ih =>
        intro i hfu hi hne
        refine g_iload (pc := 39) hX d_PN_chooseName_39 rfl ?_
        refine g_aload_n (pc := 41) hX 0 d_PN_chooseName_41 rfl rfl ?_
        refine g_get (pc := 42) hX f_PN_33 0 rfl rfl d_PN_chooseName_42 ?_
        refine g_icmp_ge (pc := 45) (tgt := 89) hX d_PN_chooseName_45 (by decide) (by (first | omega | (dsimp only [rN, rC, rF, rG, rH, rA, sN, sC, sI, sD, sO, sA, uN, uF, pA, pC, pX, pL, pR, pK, pM] at *; omega))) (by (first | omega | (dsimp only [rN, rC, rF, rG, rH, rA, sN, sC, sI, sD, sO, sA, uN, uF, pA, pC, pX, pL, pR, pK, pM] at *; omega))) (fun c_3 => ?_) (fun c_3 => ?_)
        · refine g_lload (pc := 89) hX d_PN_chooseName_89 rfl ?_
          exact g_lret (pc := 91) hX hE d_PN_chooseName_91 (by decide) (by decide) ⟨n_2, _, rfl, rfl, nk_2, ⟨f_2_1, f_2_2, f_2_3⟩, by (first | omega | (dsimp only [rN, rC, rF, rG, rH, rA, sN, sC, sI, sD, sO, sA, uN, uF, pA, pC, pX, pL, pR, pK, pM] at *; omega)), Or.inl ⟨fun q => by
                obtain ⟨j, hj, e⟩ := List.getElem_of_mem q
                refine hne j (by (first | omega | (dsimp only [rN, rC, rF, rG, rH, rA, sN, sC, sI, sD, sO, sA, uN, uF, pA, pC, pX, pL, pR, pK, pM] at *; omega))) ?_
                rw [l2 j (by (first | omega | (dsimp only [rN, rC, rF, rG, rH, rA, sN, sC, sI, sD, sO, sA, uN, uF, pA, pC, pX, pL, pR, pK, pM] at *; omega))), List.getD_eq_getElem?_getD, List.getElem?_eq_getElem hj]; exact e, rfl⟩, rfl, rfl⟩
        · refine g_iload (pc := 48) hX d_PN_chooseName_48 rfl ?_
          refine g_aload_n (pc := 50) hX 0 d_PN_chooseName_50 rfl rfl ?_
          refine g_get (pc := 51) hX f_PN_25 0 rfl rfl d_PN_chooseName_51 ?_
          refine g_alenL (pc := 54) hX 3 rfl d_PN_chooseName_54 ?_
          refine g_icmp_ge (pc := 55) (tgt := 89) hX d_PN_chooseName_55 (by decide) (by (first | omega | (dsimp only [rN, rC, rF, rG, rH, rA, sN, sC, sI, sD, sO, sA, uN, uF, pA, pC, pX, pL, pR, pK, pM] at *; omega))) (by (first | omega | (dsimp only [rN, rC, rF, rG, rH, rA, sN, sC, sI, sD, sO, sA, uN, uF, pA, pC, pX, pL, pR, pK, pM] at *; omega))) (fun c_4 => ?_) (fun c_4 => ?_)
          · exfalso; (first | omega | (dsimp only [rN, rC, rF, rG, rH, rA, sN, sC, sI, sD, sO, sA, uN, uF, pA, pC, pX, pL, pR, pK, pM] at *; omega))
          · refine g_aload_n (pc := 58) hX 0 d_PN_chooseName_58 rfl rfl ?_
            refine g_get (pc := 59) hX f_PN_25 0 rfl rfl d_PN_chooseName_59 ?_
            refine g_iload (pc := 62) hX d_PN_chooseName_62 rfl ?_
            have hq1 := mz ((i : Int).toNat)
            refine g_lald (pc := 64) hX 3 rfl (by (first | omega | (dsimp only [rN, rC, rF, rG, rH, rA, sN, sC, sI, sD, sO, sA, uN, uF, pA, pC, pX, pL, pR, pK, pM] at *; omega))) d_PN_chooseName_64 ?_
            refine g_lload (pc := 65) hX d_PN_chooseName_65 rfl ?_
            refine g_lcmp_ne (pc := 67) (tgt := 83) hX d_PN_chooseName_67 d_PN_chooseName_68 (by decide) (by (first | omega | (dsimp only [rN, rC, rF, rG, rH, rA, sN, sC, sI, sD, sO, sA, uN, uF, pA, pC, pX, pL, pR, pK, pM] at *; omega))) (by (first | omega | (dsimp only [rN, rC, rF, rG, rH, rA, sN, sC, sI, sD, sO, sA, uN, uF, pA, pC, pX, pL, pR, pK, pM] at *; omega))) (fun c_5 => ?_) (fun c_5 => ?_)
            · refine g_iinc (pc := 83) hX d_PN_chooseName_83 (by decide) rfl ?_
              refine g_goto (pc := 86) (tgt := 39) hX d_PN_chooseName_86 (by decide) ?_
              refine g_lv [(0, .ref n), (5, .long (lI (ownN (rG tc b)))), (7, .int (iI ((i + 1 : Nat) : Int)))] ⟨rfl, rfl, rfl, trivial⟩ ?_
              exact ih (i + 1) (by (first | omega | (dsimp only [rN, rC, rF, rG, rH, rA, sN, sC, sI, sD, sO, sA, uN, uF, pA, pC, pX, pL, pR, pK, pM] at *; omega))) (by (first | omega | (dsimp only [rN, rC, rF, rG, rH, rA, sN, sC, sI, sD, sO, sA, uN, uF, pA, pC, pX, pL, pR, pK, pM] at *; omega))) (fun j hj => by
                by_cases e : j = i
                · subst e; exact c_5
                · exact hne j (by (first | omega | (dsimp only [rN, rC, rF, rG, rH, rA, sN, sC, sI, sD, sO, sA, uN, uF, pA, pC, pX, pL, pR, pK, pM] at *; omega))))
            · have hin : (ownN (rG tc b)) ∈ nearL (pX nc) ((b + σ b : Nat) : Int) (uN gc) (uF gc) (env (rF tc) b) (rG pc) := by
                have c9 : pR n_2 i = (ownN (rG tc b)) := Decidable.not_not.mp c_5
                rw [← c9, l2 i (by (first | omega | (dsimp only [rN, rC, rF, rG, rH, rA, sN, sC, sI, sD, sO, sA, uN, uF, pA, pC, pX, pL, pR, pK, pM] at *; omega))), List.getD_eq_getElem?_getD, List.getElem?_eq_getElem (by (first | omega | (dsimp only [rN, rC, rF, rG, rH, rA, sN, sC, sI, sD, sO, sA, uN, uF, pA, pC, pX, pL, pR, pK, pM] at *; omega)))]
                exact List.getElem_mem _
              refine g_lload (pc := 71) hX d_PN_chooseName_71 rfl ?_
              refine g_aload_n (pc := 73) hX 0 d_PN_chooseName_73 rfl rfl ?_
              refine g_lload (pc := 74) hX d_PN_chooseName_74 rfl ?_
              refine g_callV (pc := 76) hX (c_PN_leastNumber l E n s n_2 nk_2 _ (by (first | omega | (dsimp only [rN, rC, rF, rG, rH, rA, sN, sC, sI, sD, sO, sA, uN, uF, pA, pC, pX, pL, pR, pK, pM] at *; omega))) hnn) gy_PN_leastNumber gv_PN_leastNumber w_408 rfl (by decide) (by decide) [0, 1, 2, 3, 4] rfl (by decide +kernel) rfl rfl rfl _ rfl (Nat.le_of_ble_eq_true rfl) d_PN_chooseName_76 (by decide) (by decide) (fun _ _ _ _ h => by obtain ⟨_, _, _, h2, _⟩ := h; rw [h2]; exact Nat.le_of_ble_eq_true rfl) (fun v w dc_6 ds_6 hp => ?_)
              obtain ⟨n_6, r_6, rfl, rfl, nk_6, f_6_1, f_6_2, rfl, rfl⟩ := hp
              refine g_wsP (pnW E n s n_6 ++ glW E g gc ++ scW E s sc ++ rowW E t tc ++ rowW E p pc) rfl rfl ?_
              obtain ⟨y1, y2, y3, y4, y5⟩ := f_6_1
              have hln := f_6_2
              have hr1 : 1 ≤ r_6 := hln.1
              have hr2 : r_6 ≤ 3200 := by have := hln.2.1; (first | omega | (dsimp only [rN, rC, rF, rG, rH, rA, sN, sC, sI, sD, sO, sA, uN, uF, pA, pC, pX, pL, pR, pK, pM] at *; omega))
              have hnm := nmb_in how.1 how.2 (show (0 : Int) ≤ (r_6 : Int) by (first | omega | (dsimp only [rN, rC, rF, rG, rH, rA, sN, sC, sI, sD, sO, sA, uN, uF, pA, pC, pX, pL, pR, pK, pM] at *; omega))) (by (first | omega | (dsimp only [rN, rC, rF, rG, rH, rA, sN, sC, sI, sD, sO, sA, uN, uF, pA, pC, pX, pL, pR, pK, pM] at *; omega)))
              refine g_lS (pc := 79) hX (c_NM_numbered l E _ (by (first | omega | (dsimp only [rN, rC, rF, rG, rH, rA, sN, sC, sI, sD, sO, sA, uN, uF, pA, pC, pX, pL, pR, pK, pM] at *; omega))) _ (by (first | omega | (dsimp only [rN, rC, rF, rG, rH, rA, sN, sC, sI, sD, sO, sA, uN, uF, pA, pC, pX, pL, pR, pK, pM] at *; omega))) (by (first | omega | (dsimp only [rN, rC, rF, rG, rH, rA, sN, sC, sI, sD, sO, sA, uN, uF, pA, pC, pX, pL, pR, pK, pM] at *; omega)))) gy_NM_numbered w_417 w_416 rfl (by decide) (by decide) [] rfl (by decide +kernel) _ rfl (Nat.le_of_ble_eq_true rfl) d_PN_chooseName_79 (by decide) (by decide) ?_
              exact g_lret (pc := 82) hX hE d_PN_chooseName_82 (by decide) (by decide) ⟨n_6, _, rfl, rfl, nk_6, ⟨by rw [y1, f_2_1], by rw [y2, f_2_2], by rw [y3, f_2_3]⟩, by (first | omega | (dsimp only [rN, rC, rF, rG, rH, rA, sN, sC, sI, sD, sO, sA, uN, uF, pA, pC, pX, pL, pR, pK, pM] at *; omega)), Or.inr ⟨hin, r_6, by rw [l1]; exact leastN_congr hln (fun i hi => l2 i hi), rfl⟩, rfl, rfl⟩
    refine g_lv [(0, .ref n), (5, .long (lI (ownN (rG tc b)))), (7, .int (iI ((0 : Nat) : Int)))] ⟨rfl, rfl, rfl, trivial⟩ ?_
    exact loop (pM n_2 + 1) 0 (by (first | omega | (dsimp only [rN, rC, rF, rG, rH, rA, sN, sC, sI, sD, sO, sA, uN, uF, pA, pC, pX, pL, pR, pK, pM] at *; omega))) (by (first | omega | (dsimp only [rN, rC, rF, rG, rH, rA, sN, sC, sI, sD, sO, sA, uN, uF, pA, pC, pX, pL, pR, pK, pM] at *; omega))) (fun j hj => by (first | omega | (dsimp only [rN, rC, rF, rG, rH, rA, sN, sC, sI, sD, sO, sA, uN, uF, pA, pC, pX, pL, pR, pK, pM] at *; omega)))
    
  · refine g_ldc2 (pc := 10) hX 120 w_384 (by decide) d_PN_chooseName_10 ?_
    refine g_goto (pc := 13) (tgt := 21) hX d_PN_chooseName_13 (by decide) ?_
    refine g_st (.long (lI (ownN (rG tc b))) :: []) (by rw [show (ownN (rG tc b)) = 120 from if_pos (by (first | omega | (dsimp only [rN, rC, rF, rG, rH, rA, sN, sC, sI, sD, sO, sA, uN, uF, pA, pC, pX, pL, pR, pK, pM] at *; omega)))] <;> rfl) ?_
    refine g_lstore (pc := 21) hX d_PN_chooseName_21 (by decide) ?_
    refine g_aload_n (pc := 23) hX 0 d_PN_chooseName_23 rfl rfl ?_
    refine g_iload_n (pc := 24) hX 1 d_PN_chooseName_24 rfl rfl ?_
    refine g_aload_n (pc := 25) hX 2 d_PN_chooseName_25 rfl rfl ?_
    refine g_iload_n (pc := 26) hX 1 d_PN_chooseName_26 rfl rfl ?_
    refine g_iV (pc := 27) hX (c_RW_end l E t tc tk _ (by (first | omega | (dsimp only [rN, rC, rF, rG, rH, rA, sN, sC, sI, sD, sO, sA, uN, uF, pA, pC, pX, pL, pR, pK, pM] at *; omega)))) gy_RW_end gv_RW_end w_385 rfl (by decide) (by decide) [11, 12, 13, 14] rfl (by decide +kernel) rfl rfl rfl _ rfl (Nat.le_of_ble_eq_true rfl) d_PN_chooseName_27 (by decide) (by decide) ?_
    refine g_st (.int (iI ((b + σ b : Nat) : Int)) :: .int (iI (b : Int)) :: .ref n :: []) (by rw [es] <;> rfl) ?_
    refine g_aload_n (pc := 30) hX 3 d_PN_chooseName_30 rfl rfl ?_
    refine g_aload (pc := 31) hX d_PN_chooseName_31 rfl ?_
    refine g_callV (pc := 33) hX (c_PN_gatherNear l E n s nc nk g gc gk sc sk p pc pk b (b + σ b) (env (rF tc) b) ⟨hmt, ed, hevb, by (first | omega | (dsimp only [rN, rC, rF, rG, rH, rA, sN, sC, sI, sD, sO, sA, uN, uF, pA, pC, pX, pL, pR, pK, pM] at *; omega)), by (first | omega | (dsimp only [rN, rC, rF, rG, rH, rA, sN, sC, sI, sD, sO, sA, uN, uF, pA, pC, pX, pL, pR, pK, pM] at *; omega)), by (first | omega | (dsimp only [rN, rC, rF, rG, rH, rA, sN, sC, sI, sD, sO, sA, uN, uF, pA, pC, pX, pL, pR, pK, pM] at *; omega)), db, by show dep (rF tc) b ≤ sC sc; (first | omega | (dsimp only [rN, rC, rF, rG, rH, rA, sN, sC, sI, sD, sO, sA, uN, uF, pA, pC, pX, pL, pR, pK, pM] at *; omega)), by (first | omega | (dsimp only [rN, rC, rF, rG, rH, rA, sN, sC, sI, sD, sO, sA, uN, uF, pA, pC, pX, pL, pR, pK, pM] at *; omega))⟩) gy_PN_gatherNear gv_PN_gatherNear w_386 rfl (by decide) (by decide) [0, 1, 2, 3, 4, 5, 6, 7, 8, 9, 10, 15, 16, 17, 18] rfl (by decide +kernel) rfl rfl rfl _ rfl (Nat.le_of_ble_eq_true rfl) d_PN_chooseName_33 (by decide) (by decide) (fun _ _ _ _ h => by obtain ⟨_, _, h2, _⟩ := h; rw [h2]; exact Nat.le_of_ble_eq_true rfl) (fun v w dc_7 ds_7 hp => ?_)
    obtain ⟨n_7, rfl, rfl, nk_7, ⟨f_7_1, f_7_2, f_7_3, f_7_4⟩, f_7_5, rfl, rfl⟩ := hp
    refine g_wsP (pnW E n s n_7 ++ glW E g gc ++ scW E s sc ++ rowW E t tc ++ rowW E p pc) rfl rfl ?_
    obtain ⟨⟨m1, m2, m3⟩, mx, my, mz, mu⟩ := id nk_7
    obtain ⟨l1, l2⟩ := LR_get f_7_5
    have hnn : ∀ i, i < pM n_7 → 0 ≤ pR n_7 i := fun i hi => by
      rw [l2 i hi]
      exact near_nn hgn hpn (fun q hq => by have := hevb q hq; (first | omega | (dsimp only [rN, rC, rF, rG, rH, rA, sN, sC, sI, sD, sO, sA, uN, uF, pA, pC, pX, pL, pR, pK, pM] at *; omega))) i (by (first | omega | (dsimp only [rN, rC, rF, rG, rH, rA, sN, sC, sI, sD, sO, sA, uN, uF, pA, pC, pX, pL, pR, pK, pM] at *; omega)))
    have l3 : pM n_7 ≤ 3200 := by
      rw [← l1]; unfold nearL; rw [List.length_append]
      have y1 := gpL_len (pX nc) ((b + σ b : Nat) : Int) (uF gc) (uN gc)
      have y2 := opL_len (pX nc) ((b + σ b : Nat) : Int) (env (rF tc) b) (rG pc) (env (rF tc) b).length
      (first | omega | (dsimp only [rN, rC, rF, rG, rH, rA, sN, sC, sI, sD, sO, sA, uN, uF, pA, pC, pX, pL, pR, pK, pM] at *; omega))
    refine g_iconst (pc := 36) hX d_PN_chooseName_36 ?_
    refine g_istore (pc := 37) hX d_PN_chooseName_37 (by decide) ?_
    have loop : ∀ (d : Nat) (i : Nat), pM n_7 < i + d → i ≤ pM n_7 → (∀ j, j < i → pR n_7 j ≠ (ownN (rG tc b))) → gW X (pnW E n s n_7 ++ glW E g gc ++ scW E s sc ++ rowW E t tc ++ rowW E p pc) 0 0 39 [(0, .ref n), (5, .long (lI (ownN (rG tc b)))), (7, .int (iI (i : Int)))] [] := by
      intro d
      induction d with
      | zero => intro i hfu hi hne; (first | omega | (dsimp only [rN, rC, rF, rG, rH, rA, sN, sC, sI, sD, sO, sA, uN, uF, pA, pC, pX, pL, pR, pK, pM] at *; omega))
      | succ d ih =>
        intro i hfu hi hne
        refine g_iload (pc := 39) hX d_PN_chooseName_39 rfl ?_
        refine g_aload_n (pc := 41) hX 0 d_PN_chooseName_41 rfl rfl ?_
        refine g_get (pc := 42) hX f_PN_33 0 rfl rfl d_PN_chooseName_42 ?_
        refine g_icmp_ge (pc := 45) (tgt := 89) hX d_PN_chooseName_45 (by decide) (by (first | omega | (dsimp only [rN, rC, rF, rG, rH, rA, sN, sC, sI, sD, sO, sA, uN, uF, pA, pC, pX, pL, pR, pK, pM] at *; omega))) (by (first | omega | (dsimp only [rN, rC, rF, rG, rH, rA, sN, sC, sI, sD, sO, sA, uN, uF, pA, pC, pX, pL, pR, pK, pM] at *; omega))) (fun c_8 => ?_) (fun c_8 => ?_)
        · refine g_lload (pc := 89) hX d_PN_chooseName_89 rfl ?_
          exact g_lret (pc := 91) hX hE d_PN_chooseName_91 (by decide) (by decide) ⟨n_7, _, rfl, rfl, nk_7, ⟨f_7_1, f_7_2, f_7_3⟩, by (first | omega | (dsimp only [rN, rC, rF, rG, rH, rA, sN, sC, sI, sD, sO, sA, uN, uF, pA, pC, pX, pL, pR, pK, pM] at *; omega)), Or.inl ⟨fun q => by
                obtain ⟨j, hj, e⟩ := List.getElem_of_mem q
                refine hne j (by (first | omega | (dsimp only [rN, rC, rF, rG, rH, rA, sN, sC, sI, sD, sO, sA, uN, uF, pA, pC, pX, pL, pR, pK, pM] at *; omega))) ?_
                rw [l2 j (by (first | omega | (dsimp only [rN, rC, rF, rG, rH, rA, sN, sC, sI, sD, sO, sA, uN, uF, pA, pC, pX, pL, pR, pK, pM] at *; omega))), List.getD_eq_getElem?_getD, List.getElem?_eq_getElem hj]; exact e, rfl⟩, rfl, rfl⟩
        · refine g_iload (pc := 48) hX d_PN_chooseName_48 rfl ?_
          refine g_aload_n (pc := 50) hX 0 d_PN_chooseName_50 rfl rfl ?_
          refine g_get (pc := 51) hX f_PN_25 0 rfl rfl d_PN_chooseName_51 ?_
          refine g_alenL (pc := 54) hX 3 rfl d_PN_chooseName_54 ?_
          refine g_icmp_ge (pc := 55) (tgt := 89) hX d_PN_chooseName_55 (by decide) (by (first | omega | (dsimp only [rN, rC, rF, rG, rH, rA, sN, sC, sI, sD, sO, sA, uN, uF, pA, pC, pX, pL, pR, pK, pM] at *; omega))) (by (first | omega | (dsimp only [rN, rC, rF, rG, rH, rA, sN, sC, sI, sD, sO, sA, uN, uF, pA, pC, pX, pL, pR, pK, pM] at *; omega))) (fun c_9 => ?_) (fun c_9 => ?_)
          · exfalso; (first | omega | (dsimp only [rN, rC, rF, rG, rH, rA, sN, sC, sI, sD, sO, sA, uN, uF, pA, pC, pX, pL, pR, pK, pM] at *; omega))
          · refine g_aload_n (pc := 58) hX 0 d_PN_chooseName_58 rfl rfl ?_
            refine g_get (pc := 59) hX f_PN_25 0 rfl rfl d_PN_chooseName_59 ?_
            refine g_iload (pc := 62) hX d_PN_chooseName_62 rfl ?_
            have hq1 := mz ((i : Int).toNat)
            refine g_lald (pc := 64) hX 3 rfl (by (first | omega | (dsimp only [rN, rC, rF, rG, rH, rA, sN, sC, sI, sD, sO, sA, uN, uF, pA, pC, pX, pL, pR, pK, pM] at *; omega))) d_PN_chooseName_64 ?_
            refine g_lload (pc := 65) hX d_PN_chooseName_65 rfl ?_
            refine g_lcmp_ne (pc := 67) (tgt := 83) hX d_PN_chooseName_67 d_PN_chooseName_68 (by decide) (by (first | omega | (dsimp only [rN, rC, rF, rG, rH, rA, sN, sC, sI, sD, sO, sA, uN, uF, pA, pC, pX, pL, pR, pK, pM] at *; omega))) (by (first | omega | (dsimp only [rN, rC, rF, rG, rH, rA, sN, sC, sI, sD, sO, sA, uN, uF, pA, pC, pX, pL, pR, pK, pM] at *; omega))) (fun c_10 => ?_) (fun c_10 => ?_)
            · refine g_iinc (pc := 83) hX d_PN_chooseName_83 (by decide) rfl ?_
              refine g_goto (pc := 86) (tgt := 39) hX d_PN_chooseName_86 (by decide) ?_
              refine g_lv [(0, .ref n), (5, .long (lI (ownN (rG tc b)))), (7, .int (iI ((i + 1 : Nat) : Int)))] ⟨rfl, rfl, rfl, trivial⟩ ?_
              exact ih (i + 1) (by (first | omega | (dsimp only [rN, rC, rF, rG, rH, rA, sN, sC, sI, sD, sO, sA, uN, uF, pA, pC, pX, pL, pR, pK, pM] at *; omega))) (by (first | omega | (dsimp only [rN, rC, rF, rG, rH, rA, sN, sC, sI, sD, sO, sA, uN, uF, pA, pC, pX, pL, pR, pK, pM] at *; omega))) (fun j hj => by
                by_cases e : j = i
                · subst e; exact c_10
                · exact hne j (by (first | omega | (dsimp only [rN, rC, rF, rG, rH, rA, sN, sC, sI, sD, sO, sA, uN, uF, pA, pC, pX, pL, pR, pK, pM] at *; omega))))
            · have hin : (ownN (rG tc b)) ∈ nearL (pX nc) ((b + σ b : Nat) : Int) (uN gc) (uF gc) (env (rF tc) b) (rG pc) := by
                have c9 : pR n_7 i = (ownN (rG tc b)) := Decidable.not_not.mp c_10
                rw [← c9, l2 i (by (first | omega | (dsimp only [rN, rC, rF, rG, rH, rA, sN, sC, sI, sD, sO, sA, uN, uF, pA, pC, pX, pL, pR, pK, pM] at *; omega))), List.getD_eq_getElem?_getD, List.getElem?_eq_getElem (by (first | omega | (dsimp only [rN, rC, rF, rG, rH, rA, sN, sC, sI, sD, sO, sA, uN, uF, pA, pC, pX, pL, pR, pK, pM] at *; omega)))]
                exact List.getElem_mem _
              refine g_lload (pc := 71) hX d_PN_chooseName_71 rfl ?_
              refine g_aload_n (pc := 73) hX 0 d_PN_chooseName_73 rfl rfl ?_
              refine g_lload (pc := 74) hX d_PN_chooseName_74 rfl ?_
              refine g_callV (pc := 76) hX (c_PN_leastNumber l E n s n_7 nk_7 _ (by (first | omega | (dsimp only [rN, rC, rF, rG, rH, rA, sN, sC, sI, sD, sO, sA, uN, uF, pA, pC, pX, pL, pR, pK, pM] at *; omega))) hnn) gy_PN_leastNumber gv_PN_leastNumber w_408 rfl (by decide) (by decide) [0, 1, 2, 3, 4] rfl (by decide +kernel) rfl rfl rfl _ rfl (Nat.le_of_ble_eq_true rfl) d_PN_chooseName_76 (by decide) (by decide) (fun _ _ _ _ h => by obtain ⟨_, _, _, h2, _⟩ := h; rw [h2]; exact Nat.le_of_ble_eq_true rfl) (fun v w dc_11 ds_11 hp => ?_)
              obtain ⟨n_11, r_11, rfl, rfl, nk_11, f_11_1, f_11_2, rfl, rfl⟩ := hp
              refine g_wsP (pnW E n s n_11 ++ glW E g gc ++ scW E s sc ++ rowW E t tc ++ rowW E p pc) rfl rfl ?_
              obtain ⟨y1, y2, y3, y4, y5⟩ := f_11_1
              have hln := f_11_2
              have hr1 : 1 ≤ r_11 := hln.1
              have hr2 : r_11 ≤ 3200 := by have := hln.2.1; (first | omega | (dsimp only [rN, rC, rF, rG, rH, rA, sN, sC, sI, sD, sO, sA, uN, uF, pA, pC, pX, pL, pR, pK, pM] at *; omega))
              have hnm := nmb_in how.1 how.2 (show (0 : Int) ≤ (r_11 : Int) by (first | omega | (dsimp only [rN, rC, rF, rG, rH, rA, sN, sC, sI, sD, sO, sA, uN, uF, pA, pC, pX, pL, pR, pK, pM] at *; omega))) (by (first | omega | (dsimp only [rN, rC, rF, rG, rH, rA, sN, sC, sI, sD, sO, sA, uN, uF, pA, pC, pX, pL, pR, pK, pM] at *; omega)))
              refine g_lS (pc := 79) hX (c_NM_numbered l E _ (by (first | omega | (dsimp only [rN, rC, rF, rG, rH, rA, sN, sC, sI, sD, sO, sA, uN, uF, pA, pC, pX, pL, pR, pK, pM] at *; omega))) _ (by (first | omega | (dsimp only [rN, rC, rF, rG, rH, rA, sN, sC, sI, sD, sO, sA, uN, uF, pA, pC, pX, pL, pR, pK, pM] at *; omega))) (by (first | omega | (dsimp only [rN, rC, rF, rG, rH, rA, sN, sC, sI, sD, sO, sA, uN, uF, pA, pC, pX, pL, pR, pK, pM] at *; omega)))) gy_NM_numbered w_417 w_416 rfl (by decide) (by decide) [] rfl (by decide +kernel) _ rfl (Nat.le_of_ble_eq_true rfl) d_PN_chooseName_79 (by decide) (by decide) ?_
              exact g_lret (pc := 82) hX hE d_PN_chooseName_82 (by decide) (by decide) ⟨n_11, _, rfl, rfl, nk_11, ⟨by rw [y1, f_7_1], by rw [y2, f_7_2], by rw [y3, f_7_3]⟩, by (first | omega | (dsimp only [rN, rC, rF, rG, rH, rA, sN, sC, sI, sD, sO, sA, uN, uF, pA, pC, pX, pL, pR, pK, pM] at *; omega)), Or.inr ⟨hin, r_11, by rw [l1]; exact leastN_congr hln (fun i hi => l2 i hi), rfl⟩, rfl, rfl⟩
    refine g_lv [(0, .ref n), (5, .long (lI (ownN (rG tc b)))), (7, .int (iI ((0 : Nat) : Int)))] ⟨rfl, rfl, rfl, trivial⟩ ?_
    exact loop (pM n_7 + 1) 0 (by (first | omega | (dsimp only [rN, rC, rF, rG, rH, rA, sN, sC, sI, sD, sO, sA, uN, uF, pA, pC, pX, pL, pR, pK, pM] at *; omega))) (by (first | omega | (dsimp only [rN, rC, rF, rG, rH, rA, sN, sC, sI, sD, sO, sA, uN, uF, pA, pC, pX, pL, pR, pK, pM] at *; omega))) (fun j hj => by (first | omega | (dsimp only [rN, rC, rF, rG, rH, rA, sN, sC, sI, sD, sO, sA, uN, uF, pA, pC, pX, pL, pR, pK, pM] at *; omega)))
    
