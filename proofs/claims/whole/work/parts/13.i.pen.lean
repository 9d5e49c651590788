abbrev rm_PN_gatherNear : Room := { frames := 2, cells := 0, slots := 0, locals := 42 }
set_option maxHeartbeats 4000000 in
set_option maxRecDepth 100000 in
theorem c_PN_gatherNear (l : Launch) (E : gE) (n g s : Nat) (nc : PnT) (nk : pnOK nc) (gc : GlT) (gk : glOK gc) (sc : ScT) (sk : scOK sc) (p : Nat) (pc : RowT) (pk : rowOK pc) (b : Nat) (e : Nat) (ev : List Nat) (hev : mat (sO sc) ev ∧ zD sc (b : Int) = ev.length ∧ (∀ q ∈ ev, q < b) ∧ b ≤ 3000 ∧ b ≤ rN pc ∧ e ≤ 3000 ∧ ev.length ≤ b ∧ ev.length ≤ sC sc ∧ 200 + b ≤ pC nc) : Ct l E y_PN_gatherNear b_PN_gatherNear 8 none rm_PN_gatherNear [.ref n, .int (iI (b : Int)), .int (iI (e : Int)), .ref p] (pnW E n g s nc ++ glW E g gc ++ scW E s sc ++ rowW E p pc) (fun vv ww dc ds => ∃ π, vv = none ∧ ww = pnW E n g s π ++ glW E g gc ++ scW E s sc ++ rowW E p pc ∧ pnOK π ∧ ((pC π = pC nc ∧ pX π = pX nc ∧ pL π = pL nc ∧ pK π = pK nc) ∧ LR (pM π) (pR π) = nearL (pX nc) (e : Int) (uN gc) (uF gc) ev (rG pc) ∧ dc = 0 ∧ ds = 0)) := by
  obtain ⟨⟨n1, n2, n3⟩, nx, ny, nz, nu⟩ := id nk
  obtain ⟨g1, g2⟩ := id gk
  obtain ⟨⟨s1, s2, s3, s4⟩, si, sd, so⟩ := id sk
  obtain ⟨⟨p1, p2, p3, p4⟩, pf, pg, ph⟩ := id pk
  obtain ⟨v1, v2, v3, v4, v5, v6, v7, v8, v9⟩ := hev
  refine g_start (by decide) (Nat.le_of_ble_eq_true rfl) (fun X hX hE hin => ?_)
  refine g_aload_n (pc := 0) hX 0 d_PN_gatherNear_0 rfl rfl ?_
  refine g_iconst (pc := 1) hX d_PN_gatherNear_1 ?_
  refine g_put (pc := 2) hX f_PN_28 gt_PN 0 rfl rfl rfl rfl (Nat.le_of_ble_eq_true rfl) d_PN_gatherNear_2 ?_
  have hok0 : pnOK ((pA nc, pC nc, pX nc, pL nc, (pR nc), pK nc, 0) : PnT) := nk.u (by (first | omega | (dsimp only [rN, rC, rF, rG, rH, rA, sN, sC, sI, sD, sO, sA, uN, uF, pA, pC, pX, pL, pR, pK, pM] at *; omega))) nx ny nz nu
  refine g_ws (pnW E n g s ((pA nc, pC nc, pX nc, pL nc, (pR nc), pK nc, 0) : PnT) ++ glW E g gc ++ scW E s sc ++ rowW E p pc) rfl ?_
  refine g_aload_n (pc := 5) hX 0 d_PN_gatherNear_5 rfl rfl ?_
  refine g_get (pc := 6) hX f_PN_32 0 rfl rfl d_PN_gatherNear_6 ?_
  refine g_iV (pc := 9) hX (c_GL_count l E g gc gk) gy_GL_count gv_GL_count w_392 rfl (by decide) (by decide) [5, 6] rfl (by decide +kernel) rfl rfl rfl _ rfl (Nat.le_of_ble_eq_true rfl) d_PN_gatherNear_9 (by decide) (by decide) ?_
  refine g_istore (pc := 12) hX d_PN_gatherNear_12 (by decide) ?_
  refine g_iconst (pc := 14) hX d_PN_gatherNear_14 ?_
  refine g_istore (pc := 15) hX d_PN_gatherNear_15 (by decide) ?_
  have loop1 : ∀ (d : Nat) (i M : Nat) (R : Nat → Int), uN gc < i + d → i ≤ uN gc → M ≤ i → (∀ j, gil (R j)) → LR M R = gpL (pX nc) (e : Int) (uF gc) i → gW X (pnW E n g s ((pA nc, pC nc, pX nc, pL nc, R, pK nc, M) : PnT) ++ glW E g gc ++ scW E s sc ++ rowW E p pc) 0 0 17 [(0, .ref n), (1, .int (iI (b : Int))), (2, .int (iI (e : Int))), (3, .ref p), (4, .int (iI (uN gc : Int))), (5, .int (iI (i : Int)))] [] := by
    intro d
    induction d with
    | zero => intro i M R hfu hi hM hri hl; (first | omega | (dsimp only [rN, rC, rF, rG, rH, rA, sN, sC, sI, sD, sO, sA, uN, uF, pA, pC, pX, pL, pR, pK, pM] at *; omega))
    | succ d ih =>
      intro i M R hfu hi hM hri hl
      have hok : pnOK ((pA nc, pC nc, pX nc, pL nc, R, pK nc, M) : PnT) := nk.u (by (first | omega | (dsimp only [rN, rC, rF, rG, rH, rA, sN, sC, sI, sD, sO, sA, uN, uF, pA, pC, pX, pL, pR, pK, pM] at *; omega))) nx ny hri nu
      refine g_iload (pc := 17) hX d_PN_gatherNear_17 rfl ?_
      refine g_iload (pc := 19) hX d_PN_gatherNear_19 rfl ?_
      refine g_icmp_ge (pc := 21) (tgt := 54) hX d_PN_gatherNear_21 (by decide) (by (first | omega | (dsimp only [rN, rC, rF, rG, rH, rA, sN, sC, sI, sD, sO, sA, uN, uF, pA, pC, pX, pL, pR, pK, pM] at *; omega))) (by (first | omega | (dsimp only [rN, rC, rF, rG, rH, rA, sN, sC, sI, sD, sO, sA, uN, uF, pA, pC, pX, pL, pR, pK, pM] at *; omega))) (fun c_1 => ?_) (fun c_1 => ?_)
      · refine g_aload_n (pc := 54) hX 0 d_PN_gatherNear_54 rfl rfl ?_
        refine g_get (pc := 55) hX f_PN_36 0 rfl rfl d_PN_gatherNear_55 ?_
        refine g_iload_n (pc := 58) hX 1 d_PN_gatherNear_58 rfl rfl ?_
        refine g_iV (pc := 59) hX (c_SC_depth l E s sc sk _ (by (first | omega | (dsimp only [rN, rC, rF, rG, rH, rA, sN, sC, sI, sD, sO, sA, uN, uF, pA, pC, pX, pL, pR, pK, pM] at *; omega)))) gy_SC_depth gv_SC_depth w_408 rfl (by decide) (by decide) [7, 8, 9, 10] rfl (by decide +kernel) rfl rfl rfl _ rfl (Nat.le_of_ble_eq_true rfl) d_PN_gatherNear_59 (by decide) (by decide) ?_
        rw [v2]
        refine g_istore (pc := 62) hX d_PN_gatherNear_62 (by decide) ?_
        refine g_iconst (pc := 64) hX d_PN_gatherNear_64 ?_
        refine g_istore (pc := 65) hX d_PN_gatherNear_65 (by decide) ?_
        have loop2 : ∀ (d : Nat) (i M : Nat) (R : Nat → Int), ev.length < i + d → i ≤ ev.length → M ≤ uN gc + i → (∀ j, gil (R j)) → LR M R = gpL (pX nc) (e : Int) (uF gc) (uN gc) ++ opL (pX nc) (e : Int) ev (rG pc) i → gW X (pnW E n g s ((pA nc, pC nc, pX nc, pL nc, R, pK nc, M) : PnT) ++ glW E g gc ++ scW E s sc ++ rowW E p pc) 0 0 67 [(0, .ref n), (2, .int (iI (e : Int))), (3, .ref p), (5, .int (iI (ev.length : Int))), (6, .int (iI (i : Int)))] [] := by
          intro d
          induction d with
          | zero => intro i M R hfu hi hM hri hl; (first | omega | (dsimp only [rN, rC, rF, rG, rH, rA, sN, sC, sI, sD, sO, sA, uN, uF, pA, pC, pX, pL, pR, pK, pM] at *; omega))
          | succ d ih =>
            intro i M R hfu hi hM hri hl
            have hok : pnOK ((pA nc, pC nc, pX nc, pL nc, R, pK nc, M) : PnT) := nk.u (by (first | omega | (dsimp only [rN, rC, rF, rG, rH, rA, sN, sC, sI, sD, sO, sA, uN, uF, pA, pC, pX, pL, pR, pK, pM] at *; omega))) nx ny hri nu
            refine g_iload (pc := 67) hX d_PN_gatherNear_67 rfl ?_
            refine g_iload (pc := 69) hX d_PN_gatherNear_69 rfl ?_
            refine g_icmp_ge (pc := 71) (tgt := 115) hX d_PN_gatherNear_71 (by decide) (by (first | omega | (dsimp only [rN, rC, rF, rG, rH, rA, sN, sC, sI, sD, sO, sA, uN, uF, pA, pC, pX, pL, pR, pK, pM] at *; omega))) (by (first | omega | (dsimp only [rN, rC, rF, rG, rH, rA, sN, sC, sI, sD, sO, sA, uN, uF, pA, pC, pX, pL, pR, pK, pM] at *; omega))) (fun c_2 => ?_) (fun c_2 => ?_)
            · exact g_vret (pc := 115) hX hE d_PN_gatherNear_115 (by decide) (by decide) ⟨((pA nc, pC nc, pX nc, pL nc, R, pK nc, M) : PnT), rfl, rfl, hok, ⟨rfl, rfl, rfl, rfl⟩, by rw [show nearL (pX nc) (e : Int) (uN gc) (uF gc) ev (rG pc) = gpL (pX nc) (e : Int) (uF gc) (uN gc) ++ opL (pX nc) (e : Int) ev (rG pc) ev.length from rfl, ← show i = ev.length by (first | omega | (dsimp only [rN, rC, rF, rG, rH, rA, sN, sC, sI, sD, sO, sA, uN, uF, pA, pC, pX, pL, pR, pK, pM] at *; omega))]; exact hl, rfl, rfl⟩
            · refine g_aload_n (pc := 74) hX 0 d_PN_gatherNear_74 rfl rfl ?_
              refine g_get (pc := 75) hX f_PN_36 0 rfl rfl d_PN_gatherNear_75 ?_
              refine g_iload (pc := 78) hX d_PN_gatherNear_78 rfl ?_
              refine g_iV (pc := 80) hX (c_SC_open l E s sc sk _ (by (first | omega | (dsimp only [rN, rC, rF, rG, rH, rA, sN, sC, sI, sD, sO, sA, uN, uF, pA, pC, pX, pL, pR, pK, pM] at *; omega)))) gy_SC_open gv_SC_open w_409 rfl (by decide) (by decide) [7, 8, 9, 10] rfl (by decide +kernel) rfl rfl rfl _ rfl (Nat.le_of_ble_eq_true rfl) d_PN_gatherNear_80 (by decide) (by decide) ?_
              obtain ⟨o1, o2⟩ := mat_oB v1 (show i < ev.length by (first | omega | (dsimp only [rN, rC, rF, rG, rH, rA, sN, sC, sI, sD, sO, sA, uN, uF, pA, pC, pX, pL, pR, pK, pM] at *; omega)))
              have o3 := v3 _ o2
              have hz1 : zO sc (i : Int) = (oB ev i : Int) := by rw [zO_t (by (first | omega | (dsimp only [rN, rC, rF, rG, rH, rA, sN, sC, sI, sD, sO, sA, uN, uF, pA, pC, pX, pL, pR, pK, pM] at *; omega)))]; exact o1
              rw [hz1]
              refine g_istore (pc := 83) hX d_PN_gatherNear_83 (by decide) ?_
              refine g_aload_n (pc := 85) hX 0 d_PN_gatherNear_85 rfl rfl ?_
              refine g_sipush (pc := 86) hX 200 d_PN_gatherNear_86 (by decide) ?_
              refine g_iload (pc := 89) hX d_PN_gatherNear_89 rfl ?_
              refine g_iadd (pc := 91) hX d_PN_gatherNear_91 ?_
              refine g_iV (pc := 92) hX (c_PN_nextOf l E n g s ((pA nc, pC nc, pX nc, pL nc, R, pK nc, M) : PnT) hok _ (by (first | omega | (dsimp only [rN, rC, rF, rG, rH, rA, sN, sC, sI, sD, sO, sA, uN, uF, pA, pC, pX, pL, pR, pK, pM] at *; omega)))) gy_PN_nextOf gv_PN_nextOf w_396 rfl (by decide) (by decide) [0, 1, 2, 3, 4] rfl (by decide +kernel) rfl rfl rfl _ rfl (Nat.le_of_ble_eq_true rfl) d_PN_gatherNear_92 (by decide) (by decide) ?_
              have hx1 : pX0 ((pA nc, pC nc, pX nc, pL nc, R, pK nc, M) : PnT) (200 + (oB ev i : Int)) = pX nc (200 + oB ev i) := by
                rw [pX0_t (by show (0 : Int) ≤ 200 + (oB ev i : Int) ∧ 200 + (oB ev i : Int) < (pC nc : Int); (first | omega | (dsimp only [rN, rC, rF, rG, rH, rA, sN, sC, sI, sD, sO, sA, uN, uF, pA, pC, pX, pL, pR, pK, pM] at *; omega)))]
                show pX nc _ = _
                congr 1
              rw [hx1]
              have hx2 := nx (200 + oB ev i)
              have hx3 := pg (oB ev i)
              refine g_iload_n (pc := 95) hX 2 d_PN_gatherNear_95 rfl rfl ?_
              refine g_icmp_ge (pc := 96) (tgt := 109) hX d_PN_gatherNear_96 (by decide) (by (first | omega | (dsimp only [rN, rC, rF, rG, rH, rA, sN, sC, sI, sD, sO, sA, uN, uF, pA, pC, pX, pL, pR, pK, pM] at *; omega))) (by (first | omega | (dsimp only [rN, rC, rF, rG, rH, rA, sN, sC, sI, sD, sO, sA, uN, uF, pA, pC, pX, pL, pR, pK, pM] at *; omega))) (fun c_3 => ?_) (fun c_3 => ?_)
              · refine g_iinc (pc := 109) hX d_PN_gatherNear_109 (by decide) rfl ?_
                refine g_goto (pc := 112) (tgt := 67) hX d_PN_gatherNear_112 (by decide) ?_
                refine g_lv [(0, .ref n), (2, .int (iI (e : Int))), (3, .ref p), (5, .int (iI (ev.length : Int))), (6, .int (iI ((i + 1 : Nat) : Int)))] ⟨rfl, rfl, rfl, rfl, rfl, trivial⟩ ?_
                exact ih (i + 1) M R (by (first | omega | (dsimp only [rN, rC, rF, rG, rH, rA, sN, sC, sI, sD, sO, sA, uN, uF, pA, pC, pX, pL, pR, pK, pM] at *; omega))) (by (first | omega | (dsimp only [rN, rC, rF, rG, rH, rA, sN, sC, sI, sD, sO, sA, uN, uF, pA, pC, pX, pL, pR, pK, pM] at *; omega))) (by (first | omega | (dsimp only [rN, rC, rF, rG, rH, rA, sN, sC, sI, sD, sO, sA, uN, uF, pA, pC, pX, pL, pR, pK, pM] at *; omega))) hri (by rw [hl, opL_succ, if_neg (show ¬ pX nc (200 + oB ev i) < (e : Int) by (first | omega | (dsimp only [rN, rC, rF, rG, rH, rA, sN, sC, sI, sD, sO, sA, uN, uF, pA, pC, pX, pL, pR, pK, pM] at *; omega))), List.append_nil])
              · refine g_aload_n (pc := 99) hX 0 d_PN_gatherNear_99 rfl rfl ?_
                refine g_aload_n (pc := 100) hX 3 d_PN_gatherNear_100 rfl rfl ?_
                refine g_iload (pc := 101) hX d_PN_gatherNear_101 rfl ?_
                refine g_lV (pc := 103) hX (c_RW_beside l E p pc pk _ (by (first | omega | (dsimp only [rN, rC, rF, rG, rH, rA, sN, sC, sI, sD, sO, sA, uN, uF, pA, pC, pX, pL, pR, pK, pM] at *; omega)))) gy_RW_beside gv_RW_beside w_370 rfl (by decide) (by decide) [11, 12, 13, 14] rfl (by decide +kernel) rfl rfl rfl _ rfl (Nat.le_of_ble_eq_true rfl) d_PN_gatherNear_103 (by decide) (by decide) ?_
                rw [show rB pc (oB ev i : Int) = rG pc (oB ev i) from rB_t (by (first | omega | (dsimp only [rN, rC, rF, rG, rH, rA, sN, sC, sI, sD, sO, sA, uN, uF, pA, pC, pX, pL, pR, pK, pM] at *; omega)))]
                refine g_callV (pc := 106) hX (c_PN_addNear l E n g s ((pA nc, pC nc, pX nc, pL nc, R, pK nc, M) : PnT) hok _ (by (first | omega | (dsimp only [rN, rC, rF, rG, rH, rA, sN, sC, sI, sD, sO, sA, uN, uF, pA, pC, pX, pL, pR, pK, pM] at *; omega))) (show M < pC nc by (first | omega | (dsimp only [rN, rC, rF, rG, rH, rA, sN, sC, sI, sD, sO, sA, uN, uF, pA, pC, pX, pL, pR, pK, pM] at *; omega)))) gy_PN_addNear gv_PN_addNear w_404 rfl (by decide) (by decide) [0, 1, 2, 3, 4] rfl (by decide +kernel) rfl rfl rfl _ rfl (Nat.le_of_ble_eq_true rfl) d_PN_gatherNear_106 (by decide) (by decide) (fun _ _ _ _ h => by obtain ⟨_, _, h2, _⟩ := h; rw [h2]; exact Nat.le_of_ble_eq_true rfl) (fun v w dc_4 ds_4 hp => ?_)
                obtain ⟨n_4, rfl, rfl, nk_4, f_4_1, rfl, rfl⟩ := hp
                refine g_wsP (pnW E n g s n_4 ++ glW E g gc ++ scW E s sc ++ rowW E p pc) rfl rfl ?_
                subst f_4_1
                refine g_ws (pnW E n g s ((pA nc, pC nc, pX nc, pL nc, (uZ R M (rG pc (oB ev i))), pK nc, (M + 1)) : PnT) ++ glW E g gc ++ scW E s sc ++ rowW E p pc) rfl ?_
                refine g_iinc (pc := 109) hX d_PN_gatherNear_109 (by decide) rfl ?_
                refine g_goto (pc := 112) (tgt := 67) hX d_PN_gatherNear_112 (by decide) ?_
                refine g_lv [(0, .ref n), (2, .int (iI (e : Int))), (3, .ref p), (5, .int (iI (ev.length : Int))), (6, .int (iI ((i + 1 : Nat) : Int)))] ⟨rfl, rfl, rfl, rfl, rfl, trivial⟩ ?_
                exact ih (i + 1) (M + 1) (uZ R M (rG pc (oB ev i))) (by (first | omega | (dsimp only [rN, rC, rF, rG, rH, rA, sN, sC, sI, sD, sO, sA, uN, uF, pA, pC, pX, pL, pR, pK, pM] at *; omega))) (by (first | omega | (dsimp only [rN, rC, rF, rG, rH, rA, sN, sC, sI, sD, sO, sA, uN, uF, pA, pC, pX, pL, pR, pK, pM] at *; omega))) (by (first | omega | (dsimp only [rN, rC, rF, rG, rH, rA, sN, sC, sI, sD, sO, sA, uN, uF, pA, pC, pX, pL, pR, pK, pM] at *; omega))) (uZ_gil hri (by (first | omega | (dsimp only [rN, rC, rF, rG, rH, rA, sN, sC, sI, sD, sO, sA, uN, uF, pA, pC, pX, pL, pR, pK, pM] at *; omega)))) (by rw [LR_add, hl, opL_succ, if_pos (show pX nc (200 + oB ev i) < (e : Int) by (first | omega | (dsimp only [rN, rC, rF, rG, rH, rA, sN, sC, sI, sD, sO, sA, uN, uF, pA, pC, pX, pL, pR, pK, pM] at *; omega))), List.append_assoc])
        refine g_lv [(0, .ref n), (2, .int (iI (e : Int))), (3, .ref p), (5, .int (iI (ev.length : Int))), (6, .int (iI ((0 : Nat) : Int)))] ⟨rfl, rfl, rfl, rfl, rfl, trivial⟩ ?_
        exact loop2 (ev.length + 1) 0 M R (by (first | omega | (dsimp only [rN, rC, rF, rG, rH, rA, sN, sC, sI, sD, sO, sA, uN, uF, pA, pC, pX, pL, pR, pK, pM] at *; omega))) (by (first | omega | (dsimp only [rN, rC, rF, rG, rH, rA, sN, sC, sI, sD, sO, sA, uN, uF, pA, pC, pX, pL, pR, pK, pM] at *; omega))) (by (first | omega | (dsimp only [rN, rC, rF, rG, rH, rA, sN, sC, sI, sD, sO, sA, uN, uF, pA, pC, pX, pL, pR, pK, pM] at *; omega))) hri (by rw [hl, show i = uN gc by (first | omega | (dsimp only [rN, rC, rF, rG, rH, rA, sN, sC, sI, sD, sO, sA, uN, uF, pA, pC, pX, pL, pR, pK, pM] at *; omega))]; simp [opL])
        
      · refine g_aload_n (pc := 24) hX 0 d_PN_gatherNear_24 rfl rfl ?_
        refine g_iload (pc := 25) hX d_PN_gatherNear_25 rfl ?_
        refine g_iV (pc := 27) hX (c_PN_nextOf l E n g s ((pA nc, pC nc, pX nc, pL nc, R, pK nc, M) : PnT) hok _ (by (first | omega | (dsimp only [rN, rC, rF, rG, rH, rA, sN, sC, sI, sD, sO, sA, uN, uF, pA, pC, pX, pL, pR, pK, pM] at *; omega)))) gy_PN_nextOf gv_PN_nextOf w_396 rfl (by decide) (by decide) [0, 1, 2, 3, 4] rfl (by decide +kernel) rfl rfl rfl _ rfl (Nat.le_of_ble_eq_true rfl) d_PN_gatherNear_27 (by decide) (by decide) ?_
        have hx1 : pX0 ((pA nc, pC nc, pX nc, pL nc, R, pK nc, M) : PnT) (i : Int) = pX nc i := pX0_t (by show (0 : Int) ≤ (i : Int) ∧ (i : Int) < (pC nc : Int); (first | omega | (dsimp only [rN, rC, rF, rG, rH, rA, sN, sC, sI, sD, sO, sA, uN, uF, pA, pC, pX, pL, pR, pK, pM] at *; omega)))
        rw [hx1]
        have hx2 := nx i
        have hx3 := g2 i
        refine g_iload_n (pc := 30) hX 2 d_PN_gatherNear_30 rfl rfl ?_
        refine g_icmp_ge (pc := 31) (tgt := 48) hX d_PN_gatherNear_31 (by decide) (by (first | omega | (dsimp only [rN, rC, rF, rG, rH, rA, sN, sC, sI, sD, sO, sA, uN, uF, pA, pC, pX, pL, pR, pK, pM] at *; omega))) (by (first | omega | (dsimp only [rN, rC, rF, rG, rH, rA, sN, sC, sI, sD, sO, sA, uN, uF, pA, pC, pX, pL, pR, pK, pM] at *; omega))) (fun c_5 => ?_) (fun c_5 => ?_)
        · refine g_iinc (pc := 48) hX d_PN_gatherNear_48 (by decide) rfl ?_
          refine g_goto (pc := 51) (tgt := 17) hX d_PN_gatherNear_51 (by decide) ?_
          refine g_lv [(0, .ref n), (1, .int (iI (b : Int))), (2, .int (iI (e : Int))), (3, .ref p), (4, .int (iI (uN gc : Int))), (5, .int (iI ((i + 1 : Nat) : Int)))] ⟨rfl, rfl, rfl, rfl, rfl, rfl, trivial⟩ ?_
          exact ih (i + 1) M R (by (first | omega | (dsimp only [rN, rC, rF, rG, rH, rA, sN, sC, sI, sD, sO, sA, uN, uF, pA, pC, pX, pL, pR, pK, pM] at *; omega))) (by (first | omega | (dsimp only [rN, rC, rF, rG, rH, rA, sN, sC, sI, sD, sO, sA, uN, uF, pA, pC, pX, pL, pR, pK, pM] at *; omega))) (by (first | omega | (dsimp only [rN, rC, rF, rG, rH, rA, sN, sC, sI, sD, sO, sA, uN, uF, pA, pC, pX, pL, pR, pK, pM] at *; omega))) hri (by rw [hl, gpL_succ, if_neg (show ¬ pX nc i < (e : Int) by (first | omega | (dsimp only [rN, rC, rF, rG, rH, rA, sN, sC, sI, sD, sO, sA, uN, uF, pA, pC, pX, pL, pR, pK, pM] at *; omega))), List.append_nil])
        · refine g_aload_n (pc := 34) hX 0 d_PN_gatherNear_34 rfl rfl ?_
          refine g_aload_n (pc := 35) hX 0 d_PN_gatherNear_35 rfl rfl ?_
          refine g_get (pc := 36) hX f_PN_32 0 rfl rfl d_PN_gatherNear_36 ?_
          refine g_iload (pc := 39) hX d_PN_gatherNear_39 rfl ?_
          refine g_i2l (pc := 41) hX d_PN_gatherNear_41 (by (first | omega | (dsimp only [rN, rC, rF, rG, rH, rA, sN, sC, sI, sD, sO, sA, uN, uF, pA, pC, pX, pL, pR, pK, pM] at *; omega))) ?_
          refine g_lV (pc := 42) hX (c_GL_name l E g gc gk _ (by (first | omega | (dsimp only [rN, rC, rF, rG, rH, rA, sN, sC, sI, sD, sO, sA, uN, uF, pA, pC, pX, pL, pR, pK, pM] at *; omega)))) gy_GL_name gv_GL_name w_400 rfl (by decide) (by decide) [5, 6] rfl (by decide +kernel) rfl rfl rfl _ rfl (Nat.le_of_ble_eq_true rfl) d_PN_gatherNear_42 (by decide) (by decide) ?_
          rw [show (if 0 ≤ (i : Int) ∧ (i : Int) < uN gc then uF gc (i : Int).toNat else 0) = uF gc i from if_pos (by (first | omega | (dsimp only [rN, rC, rF, rG, rH, rA, sN, sC, sI, sD, sO, sA, uN, uF, pA, pC, pX, pL, pR, pK, pM] at *; omega)))]
          refine g_callV (pc := 45) hX (c_PN_addNear l E n g s ((pA nc, pC nc, pX nc, pL nc, R, pK nc, M) : PnT) hok _ (by (first | omega | (dsimp only [rN, rC, rF, rG, rH, rA, sN, sC, sI, sD, sO, sA, uN, uF, pA, pC, pX, pL, pR, pK, pM] at *; omega))) (show M < pC nc by (first | omega | (dsimp only [rN, rC, rF, rG, rH, rA, sN, sC, sI, sD, sO, sA, uN, uF, pA, pC, pX, pL, pR, pK, pM] at *; omega)))) gy_PN_addNear gv_PN_addNear w_404 rfl (by decide) (by decide) [0, 1, 2, 3, 4] rfl (by decide +kernel) rfl rfl rfl _ rfl (Nat.le_of_ble_eq_true rfl) d_PN_gatherNear_45 (by decide) (by decide) (fun _ _ _ _ h => by obtain ⟨_, _, h2, _⟩ := h; rw [h2]; exact Nat.le_of_ble_eq_true rfl) (fun v w dc_6 ds_6 hp => ?_)
          obtain ⟨n_6, rfl, rfl, nk_6, f_6_1, rfl, rfl⟩ := hp
          refine g_wsP (pnW E n g s n_6 ++ glW E g gc ++ scW E s sc ++ rowW E p pc) rfl rfl ?_
          subst f_6_1
          refine g_ws (pnW E n g s ((pA nc, pC nc, pX nc, pL nc, (uZ R M (uF gc i)), pK nc, (M + 1)) : PnT) ++ glW E g gc ++ scW E s sc ++ rowW E p pc) rfl ?_
          refine g_iinc (pc := 48) hX d_PN_gatherNear_48 (by decide) rfl ?_
          refine g_goto (pc := 51) (tgt := 17) hX d_PN_gatherNear_51 (by decide) ?_
          refine g_lv [(0, .ref n), (1, .int (iI (b : Int))), (2, .int (iI (e : Int))), (3, .ref p), (4, .int (iI (uN gc : Int))), (5, .int (iI ((i + 1 : Nat) : Int)))] ⟨rfl, rfl, rfl, rfl, rfl, rfl, trivial⟩ ?_
          exact ih (i + 1) (M + 1) (uZ R M (uF gc i)) (by (first | omega | (dsimp only [rN, rC, rF, rG, rH, rA, sN, sC, sI, sD, sO, sA, uN, uF, pA, pC, pX, pL, pR, pK, pM] at *; omega))) (by (first | omega | (dsimp only [rN, rC, rF, rG, rH, rA, sN, sC, sI, sD, sO, sA, uN, uF, pA, pC, pX, pL, pR, pK, pM] at *; omega))) (by (first | omega | (dsimp only [rN, rC, rF, rG, rH, rA, sN, sC, sI, sD, sO, sA, uN, uF, pA, pC, pX, pL, pR, pK, pM] at *; omega))) (uZ_gil hri (by (first | omega | (dsimp only [rN, rC, rF, rG, rH, rA, sN, sC, sI, sD, sO, sA, uN, uF, pA, pC, pX, pL, pR, pK, pM] at *; omega)))) (by rw [LR_add, hl, gpL_succ, if_pos (show pX nc i < (e : Int) by (first | omega | (dsimp only [rN, rC, rF, rG, rH, rA, sN, sC, sI, sD, sO, sA, uN, uF, pA, pC, pX, pL, pR, pK, pM] at *; omega)))])
  refine g_lv [(0, .ref n), (1, .int (iI (b : Int))), (2, .int (iI (e : Int))), (3, .ref p), (4, .int (iI (uN gc : Int))), (5, .int (iI ((0 : Nat) : Int)))] ⟨rfl, rfl, rfl, rfl, rfl, rfl, trivial⟩ ?_
  exact loop1 (uN gc + 1) 0 0 (pR nc) (by (first | omega | (dsimp only [rN, rC, rF, rG, rH, rA, sN, sC, sI, sD, sO, sA, uN, uF, pA, pC, pX, pL, pR, pK, pM] at *; omega))) (by (first | omega | (dsimp only [rN, rC, rF, rG, rH, rA, sN, sC, sI, sD, sO, sA, uN, uF, pA, pC, pX, pL, pR, pK, pM] at *; omega))) (by (first | omega | (dsimp only [rN, rC, rF, rG, rH, rA, sN, sC, sI, sD, sO, sA, uN, uF, pA, pC, pX, pL, pR, pK, pM] at *; omega))) nz rfl
  
