abbrev rm_PN_gatherNear : Room := { frames := 2, cells := 0, slots := 0, locals := 42 }
set_option maxHeartbeats 4000000 in
set_option maxRecDepth 100000 in
theorem c_PN_gatherNear (l : Launch) (E : gE) (n s : Nat) (nc : PnT) (nk : pnOK nc) (g : Nat) (gc : GlT) (gk : glOK gc) (sc : ScT) (sk : scOK sc) (p : Nat) (pc : RowT) (pk : rowOK pc) (b : Nat) (e : Nat) (ev : List Nat) (hev : mat (sO sc) ev ∧ zD sc (b : Int) = ev.length ∧ (∀ q ∈ ev, q < b) ∧ b ≤ 3000 ∧ b ≤ rN pc ∧ e ≤ 3000 ∧ ev.length ≤ b ∧ ev.length ≤ sC sc ∧ 200 + b ≤ pC nc) : Ct l E y_PN_gatherNear b_PN_gatherNear 9 none rm_PN_gatherNear [.ref n, .int (iI (b : Int)), .int (iI (e : Int)), .ref g, .ref p] (pnW E n s nc ++ glW E g gc ++ scW E s sc ++ rowW E p pc) (fun vv ww dc ds => ∃ π, vv = none ∧ ww = pnW E n s π ++ glW E g gc ++ scW E s sc ++ rowW E p pc ∧ pnOK π ∧ ((pC π = pC nc ∧ pX π = pX nc ∧ pL π = pL nc ∧ pK π = pK nc) ∧ LR (pM π) (pR π) = nearL (pX nc) (e : Int) (uN gc) (uF gc) ev (rG pc) ∧ dc = 0 ∧ ds = 0)) := by
  obtain ⟨⟨n1, n2, n3⟩, nx, ny, nz, nu⟩ := id nk
  obtain ⟨g1, g2⟩ := id gk
  obtain ⟨⟨s1, s2, s3, s4⟩, si, sd, so⟩ := id sk
  obtain ⟨⟨p1, p2, p3, p4⟩, pf, pg, ph⟩ := id pk
  obtain ⟨v1, v2, v3, v4, v5, v6, v7, v8, v9⟩ := hev
  refine g_start (by decide) (Nat.le_of_ble_eq_true rfl) (fun X hX hE hin => ?_)
  refine g_aload_n (pc := 0) hX 0 d_PN_gatherNear_0 rfl rfl ?_
  refine g_iconst (pc := 1) hX d_PN_gatherNear_1 ?_
  refine g_put (pc := 2) hX f_PN_33 gt_PN 0 rfl rfl rfl rfl (Nat.le_of_ble_eq_true rfl) d_PN_gatherNear_2 ?_
  have hok0 : pnOK ((pA nc, pC nc, pX nc, pL nc, (pR nc), pK nc, 0) : PnT) := nk.u (by (first | omega | (dsimp only [rN, rC, rF, rG, rH, rA, sN, sC, sI, sD, sO, sA, uN, uF, pA, pC, pX, pL, pR, pK, pM] at *; omega))) nx ny nz nu
  refine g_ws (pnW E n s ((pA nc, pC nc, pX nc, pL nc, (pR nc), pK nc, 0) : PnT) ++ glW E g gc ++ scW E s sc ++ rowW E p pc) rfl ?_
  refine g_aload_n (pc := 5) hX 3 d_PN_gatherNear_5 rfl rfl ?_
  refine g_iV (pc := 6) hX (c_GL_count l E g gc gk) gy_GL_count gv_GL_count w_390 rfl (by decide) (by decide) [5, 6] rfl (by decide +kernel) rfl rfl rfl _ rfl (Nat.le_of_ble_eq_true rfl) d_PN_gatherNear_6 (by decide) (by decide) ?_
  refine g_istore (pc := 9) hX d_PN_gatherNear_9 (by decide) ?_
  refine g_iconst (pc := 11) hX d_PN_gatherNear_11 ?_
  refine g_istore (pc := 12) hX d_PN_gatherNear_12 (by decide) ?_
  have loop1 : ∀ (d : Nat) (i M : Nat) (R : Nat → Int), uN gc < i + d → i ≤ uN gc → M ≤ i → (∀ j, gil (R j)) → LR M R = gpL (pX nc) (e : Int) (uF gc) i → gW X (pnW E n s ((pA nc, pC nc, pX nc, pL nc, R, pK nc, M) : PnT) ++ glW E g gc ++ scW E s sc ++ rowW E p pc) 0 0 14 [(0, .ref n), (1, .int (iI (b : Int))), (2, .int (iI (e : Int))), (3, .ref g), (4, .ref p), (5, .int (iI (uN gc : Int))), (6, .int (iI (i : Int)))] [] := by
    intro d
    induction d with
    | zero => intro i M R hfu hi hM hri hl; (first | omega | (dsimp only [rN, rC, rF, rG, rH, rA, sN, sC, sI, sD, sO, sA, uN, uF, pA, pC, pX, pL, pR, pK, pM] at *; omega))
    | succ d ih =>
      intro i M R hfu hi hM hri hl
      have hok : pnOK ((pA nc, pC nc, pX nc, pL nc, R, pK nc, M) : PnT) := nk.u (by (first | omega | (dsimp only [rN, rC, rF, rG, rH, rA, sN, sC, sI, sD, sO, sA, uN, uF, pA, pC, pX, pL, pR, pK, pM] at *; omega))) nx ny hri nu
      refine g_iload (pc := 14) hX d_PN_gatherNear_14 rfl ?_
      refine g_iload (pc := 16) hX d_PN_gatherNear_16 rfl ?_
      refine g_icmp_ge (pc := 18) (tgt := 48) hX d_PN_gatherNear_18 (by decide) (by (first | omega | (dsimp only [rN, rC, rF, rG, rH, rA, sN, sC, sI, sD, sO, sA, uN, uF, pA, pC, pX, pL, pR, pK, pM] at *; omega))) (by (first | omega | (dsimp only [rN, rC, rF, rG, rH, rA, sN, sC, sI, sD, sO, sA, uN, uF, pA, pC, pX, pL, pR, pK, pM] at *; omega))) (fun c_1 => ?_) (fun c_1 => ?_)
      · refine g_aload_n (pc := 48) hX 0 d_PN_gatherNear_48 rfl rfl ?_
        refine g_get (pc := 49) hX f_PN_12 0 rfl rfl d_PN_gatherNear_49 ?_
        refine g_iload_n (pc := 52) hX 1 d_PN_gatherNear_52 rfl rfl ?_
        refine g_iV (pc := 53) hX (c_SC_depth l E s sc sk _ (by (first | omega | (dsimp only [rN, rC, rF, rG, rH, rA, sN, sC, sI, sD, sO, sA, uN, uF, pA, pC, pX, pL, pR, pK, pM] at *; omega)))) gy_SC_depth gv_SC_depth w_406 rfl (by decide) (by decide) [7, 8, 9, 10] rfl (by decide +kernel) rfl rfl rfl _ rfl (Nat.le_of_ble_eq_true rfl) d_PN_gatherNear_53 (by decide) (by decide) ?_
        rw [v2]
        refine g_istore (pc := 56) hX d_PN_gatherNear_56 (by decide) ?_
        refine g_iconst (pc := 58) hX d_PN_gatherNear_58 ?_
        refine g_istore (pc := 59) hX d_PN_gatherNear_59 (by decide) ?_
        have loop2 : ∀ (d : Nat) (i M : Nat) (R : Nat → Int), ev.length < i + d → i ≤ ev.length → M ≤ uN gc + i → (∀ j, gil (R j)) → LR M R = gpL (pX nc) (e : Int) (uF gc) (uN gc) ++ opL (pX nc) (e : Int) ev (rG pc) i → gW X (pnW E n s ((pA nc, pC nc, pX nc, pL nc, R, pK nc, M) : PnT) ++ glW E g gc ++ scW E s sc ++ rowW E p pc) 0 0 61 [(0, .ref n), (2, .int (iI (e : Int))), (4, .ref p), (6, .int (iI (ev.length : Int))), (7, .int (iI (i : Int)))] [] := by
          intro d
          induction d with
          | zero => intro i M R hfu hi hM hri hl; (first | omega | (dsimp only [rN, rC, rF, rG, rH, rA, sN, sC, sI, sD, sO, sA, uN, uF, pA, pC, pX, pL, pR, pK, pM] at *; omega))
          | succ d ih =>
            intro i M R hfu hi hM hri hl
            have hok : pnOK ((pA nc, pC nc, pX nc, pL nc, R, pK nc, M) : PnT) := nk.u (by (first | omega | (dsimp only [rN, rC, rF, rG, rH, rA, sN, sC, sI, sD, sO, sA, uN, uF, pA, pC, pX, pL, pR, pK, pM] at *; omega))) nx ny hri nu
            refine g_iload (pc := 61) hX d_PN_gatherNear_61 rfl ?_
            refine g_iload (pc := 63) hX d_PN_gatherNear_63 rfl ?_
            refine g_icmp_ge (pc := 65) (tgt := 110) hX d_PN_gatherNear_65 (by decide) (by (first | omega | (dsimp only [rN, rC, rF, rG, rH, rA, sN, sC, sI, sD, sO, sA, uN, uF, pA, pC, pX, pL, pR, pK, pM] at *; omega))) (by (first | omega | (dsimp only [rN, rC, rF, rG, rH, rA, sN, sC, sI, sD, sO, sA, uN, uF, pA, pC, pX, pL, pR, pK, pM] at *; omega))) (fun c_2 => ?_) (fun c_2 => ?_)
            · exact g_vret (pc := 110) hX hE d_PN_gatherNear_110 (by decide) (by decide) ⟨((pA nc, pC nc, pX nc, pL nc, R, pK nc, M) : PnT), rfl, rfl, hok, ⟨rfl, rfl, rfl, rfl⟩, by rw [show nearL (pX nc) (e : Int) (uN gc) (uF gc) ev (rG pc) = gpL (pX nc) (e : Int) (uF gc) (uN gc) ++ opL (pX nc) (e : Int) ev (rG pc) ev.length from rfl, ← show i = ev.length by (first | omega | (dsimp only [rN, rC, rF, rG, rH, rA, sN, sC, sI, sD, sO, sA, uN, uF, pA, pC, pX, pL, pR, pK, pM] at *; omega))]; exact hl, rfl, rfl⟩
            · refine g_aload_n (pc := 68) hX 0 d_PN_gatherNear_68 rfl rfl ?_
              refine g_get (pc := 69) hX f_PN_12 0 rfl rfl d_PN_gatherNear_69 ?_
              refine g_iload (pc := 72) hX d_PN_gatherNear_72 rfl ?_
              refine g_iV (pc := 74) hX (c_SC_open l E s sc sk _ (by (first | omega | (dsimp only [rN, rC, rF, rG, rH, rA, sN, sC, sI, sD, sO, sA, uN, uF, pA, pC, pX, pL, pR, pK, pM] at *; omega)))) gy_SC_open gv_SC_open w_407 rfl (by decide) (by decide) [7, 8, 9, 10] rfl (by decide +kernel) rfl rfl rfl _ rfl (Nat.le_of_ble_eq_true rfl) d_PN_gatherNear_74 (by decide) (by decide) ?_
              obtain ⟨o1, o2⟩ := mat_oB v1 (show i < ev.length by (first | omega | (dsimp only [rN, rC, rF, rG, rH, rA, sN, sC, sI, sD, sO, sA, uN, uF, pA, pC, pX, pL, pR, pK, pM] at *; omega)))
              have o3 := v3 _ o2
              have hz1 : zO sc (i : Int) = (oB ev i : Int) := by rw [zO_t (by (first | omega | (dsimp only [rN, rC, rF, rG, rH, rA, sN, sC, sI, sD, sO, sA, uN, uF, pA, pC, pX, pL, pR, pK, pM] at *; omega)))]; exact o1
              rw [hz1]
              refine g_istore (pc := 77) hX d_PN_gatherNear_77 (by decide) ?_
              refine g_aload_n (pc := 79) hX 0 d_PN_gatherNear_79 rfl rfl ?_
              refine g_sipush (pc := 80) hX 200 d_PN_gatherNear_80 (by decide) ?_
              refine g_iload (pc := 83) hX d_PN_gatherNear_83 rfl ?_
              refine g_iadd (pc := 85) hX d_PN_gatherNear_85 ?_
              refine g_iV (pc := 86) hX (c_PN_nextOf l E n s ((pA nc, pC nc, pX nc, pL nc, R, pK nc, M) : PnT) hok _ (by (first | omega | (dsimp only [rN, rC, rF, rG, rH, rA, sN, sC, sI, sD, sO, sA, uN, uF, pA, pC, pX, pL, pR, pK, pM] at *; omega)))) gy_PN_nextOf gv_PN_nextOf w_394 rfl (by decide) (by decide) [0, 1, 2, 3, 4] rfl (by decide +kernel) rfl rfl rfl _ rfl (Nat.le_of_ble_eq_true rfl) d_PN_gatherNear_86 (by decide) (by decide) ?_
              have hx1 : pX0 ((pA nc, pC nc, pX nc, pL nc, R, pK nc, M) : PnT) (200 + (oB ev i : Int)) = pX nc (200 + oB ev i) := by
                rw [pX0_t (by show (0 : Int) ≤ 200 + (oB ev i : Int) ∧ 200 + (oB ev i : Int) < (pC nc : Int); (first | omega | (dsimp only [rN, rC, rF, rG, rH, rA, sN, sC, sI, sD, sO, sA, uN, uF, pA, pC, pX, pL, pR, pK, pM] at *; omega)))]
                show pX nc _ = _
                congr 1
              rw [hx1]
              have hx2 := nx (200 + oB ev i)
              have hx3 := pg (oB ev i)
              refine g_iload_n (pc := 89) hX 2 d_PN_gatherNear_89 rfl rfl ?_
              refine g_icmp_ge (pc := 90) (tgt := 104) hX d_PN_gatherNear_90 (by decide) (by (first | omega | (dsimp only [rN, rC, rF, rG, rH, rA, sN, sC, sI, sD, sO, sA, uN, uF, pA, pC, pX, pL, pR, pK, pM] at *; omega))) (by (first | omega | (dsimp only [rN, rC, rF, rG, rH, rA, sN, sC, sI, sD, sO, sA, uN, uF, pA, pC, pX, pL, pR, pK, pM] at *; omega))) (fun c_3 => ?_) (fun c_3 => ?_)
              · refine g_iinc (pc := 104) hX d_PN_gatherNear_104 (by decide) rfl ?_
                refine g_goto (pc := 107) (tgt := 61) hX d_PN_gatherNear_107 (by decide) ?_
                refine g_lv [(0, .ref n), (2, .int (iI (e : Int))), (4, .ref p), (6, .int (iI (ev.length : Int))), (7, .int (iI ((i + 1 : Nat) : Int)))] ⟨rfl, rfl, rfl, rfl, rfl, trivial⟩ ?_
                exact ih (i + 1) M R (by (first | omega | (dsimp only [rN, rC, rF, rG, rH, rA, sN, sC, sI, sD, sO, sA, uN, uF, pA, pC, pX, pL, pR, pK, pM] at *; omega))) (by (first | omega | (dsimp only [rN, rC, rF, rG, rH, rA, sN, sC, sI, sD, sO, sA, uN, uF, pA, pC, pX, pL, pR, pK, pM] at *; omega))) (by (first | omega | (dsimp only [rN, rC, rF, rG, rH, rA, sN, sC, sI, sD, sO, sA, uN, uF, pA, pC, pX, pL, pR, pK, pM] at *; omega))) hri (by rw [hl, opL_succ, if_neg (show ¬ pX nc (200 + oB ev i) < (e : Int) by (first | omega | (dsimp only [rN, rC, rF, rG, rH, rA, sN, sC, sI, sD, sO, sA, uN, uF, pA, pC, pX, pL, pR, pK, pM] at *; omega))), List.append_nil])
              · refine g_aload_n (pc := 93) hX 0 d_PN_gatherNear_93 rfl rfl ?_
                refine g_aload (pc := 94) hX d_PN_gatherNear_94 rfl ?_
                refine g_iload (pc := 96) hX d_PN_gatherNear_96 rfl ?_
                refine g_lV (pc := 98) hX (c_RW_beside l E p pc pk _ (by (first | omega | (dsimp only [rN, rC, rF, rG, rH, rA, sN, sC, sI, sD, sO, sA, uN, uF, pA, pC, pX, pL, pR, pK, pM] at *; omega)))) gy_RW_beside gv_RW_beside w_368 rfl (by decide) (by decide) [11, 12, 13, 14] rfl (by decide +kernel) rfl rfl rfl _ rfl (Nat.le_of_ble_eq_true rfl) d_PN_gatherNear_98 (by decide) (by decide) ?_
                rw [show rB pc (oB ev i : Int) = rG pc (oB ev i) from rB_t (by (first | omega | (dsimp only [rN, rC, rF, rG, rH, rA, sN, sC, sI, sD, sO, sA, uN, uF, pA, pC, pX, pL, pR, pK, pM] at *; omega)))]
                refine g_callV (pc := 101) hX (c_PN_addNear l E n s ((pA nc, pC nc, pX nc, pL nc, R, pK nc, M) : PnT) hok _ (by (first | omega | (dsimp only [rN, rC, rF, rG, rH, rA, sN, sC, sI, sD, sO, sA, uN, uF, pA, pC, pX, pL, pR, pK, pM] at *; omega))) (show M < pC nc by (first | omega | (dsimp only [rN, rC, rF, rG, rH, rA, sN, sC, sI, sD, sO, sA, uN, uF, pA, pC, pX, pL, pR, pK, pM] at *; omega)))) gy_PN_addNear gv_PN_addNear w_402 rfl (by decide) (by decide) [0, 1, 2, 3, 4] rfl (by decide +kernel) rfl rfl rfl _ rfl (Nat.le_of_ble_eq_true rfl) d_PN_gatherNear_101 (by decide) (by decide) (fun _ _ _ _ h => by obtain ⟨_, _, h2, _⟩ := h; rw [h2]; exact Nat.le_of_ble_eq_true rfl) (fun v w dc_4 ds_4 hp => ?_)
                obtain ⟨n_4, rfl, rfl, nk_4, f_4_1, rfl, rfl⟩ := hp
                refine g_wsP (pnW E n s n_4 ++ glW E g gc ++ scW E s sc ++ rowW E p pc) rfl rfl ?_
                subst f_4_1
                refine g_ws (pnW E n s ((pA nc, pC nc, pX nc, pL nc, (uZ R M (rG pc (oB ev i))), pK nc, (M + 1)) : PnT) ++ glW E g gc ++ scW E s sc ++ rowW E p pc) rfl ?_
                refine g_iinc (pc := 104) hX d_PN_gatherNear_104 (by decide) rfl ?_
                refine g_goto (pc := 107) (tgt := 61) hX d_PN_gatherNear_107 (by decide) ?_
                refine g_lv [(0, .ref n), (2, .int (iI (e : Int))), (4, .ref p), (6, .int (iI (ev.length : Int))), (7, .int (iI ((i + 1 : Nat) : Int)))] ⟨rfl, rfl, rfl, rfl, rfl, trivial⟩ ?_
                exact ih (i + 1) (M + 1) (uZ R M (rG pc (oB ev i))) (by (first | omega | (dsimp only [rN, rC, rF, rG, rH, rA, sN, sC, sI, sD, sO, sA, uN, uF, pA, pC, pX, pL, pR, pK, pM] at *; omega))) (by (first | omega | (dsimp only [rN, rC, rF, rG, rH, rA, sN, sC, sI, sD, sO, sA, uN, uF, pA, pC, pX, pL, pR, pK, pM] at *; omega))) (by (first | omega | (dsimp only [rN, rC, rF, rG, rH, rA, sN, sC, sI, sD, sO, sA, uN, uF, pA, pC, pX, pL, pR, pK, pM] at *; omega))) (uZ_gil hri (by (first | omega | (dsimp only [rN, rC, rF, rG, rH, rA, sN, sC, sI, sD, sO, sA, uN, uF, pA, pC, pX, pL, pR, pK, pM] at *; omega)))) (by rw [LR_add, hl, opL_succ, if_pos (show pX nc (200 + oB ev i) < (e : Int) by (first | omega | (dsimp only [rN, rC, rF, rG, rH, rA, sN, sC, sI, sD, sO, sA, uN, uF, pA, pC, pX, pL, pR, pK, pM] at *; omega))), List.append_assoc])
        refine g_lv [(0, .ref n), (2, .int (iI (e : Int))), (4, .ref p), (6, .int (iI (ev.length : Int))), (7, .int (iI ((0 : Nat) : Int)))] ⟨rfl, rfl, rfl, rfl, rfl, trivial⟩ ?_
        exact loop2 (ev.length + 1) 0 M R (by (first | omega | (dsimp only [rN, rC, rF, rG, rH, rA, sN, sC, sI, sD, sO, sA, uN, uF, pA, pC, pX, pL, pR, pK, pM] at *; omega))) (by (first | omega | (dsimp only [rN, rC, rF, rG, rH, rA, sN, sC, sI, sD, sO, sA, uN, uF, pA, pC, pX, pL, pR, pK, pM] at *; omega))) (by (first | omega | (dsimp only [rN, rC, rF, rG, rH, rA, sN, sC, sI, sD, sO, sA, uN, uF, pA, pC, pX, pL, pR, pK, pM] at *; omega))) hri (by rw [hl, show i = uN gc by (first | omega | (dsimp only [rN, rC, rF, rG, rH, rA, sN, sC, sI, sD, sO, sA, uN, uF, pA, pC, pX, pL, pR, pK, pM] at *; omega))]; simp [opL])
        
      · refine g_aload_n (pc := 21) hX 0 d_PN_gatherNear_21 rfl rfl ?_
        refine g_iload (pc := 22) hX d_PN_gatherNear_22 rfl ?_
        refine g_iV (pc := 24) hX (c_PN_nextOf l E n s ((pA nc, pC nc, pX nc, pL nc, R, pK nc, M) : PnT) hok _ (by (first | omega | (dsimp only [rN, rC, rF, rG, rH, rA, sN, sC, sI, sD, sO, sA, uN, uF, pA, pC, pX, pL, pR, pK, pM] at *; omega)))) gy_PN_nextOf gv_PN_nextOf w_394 rfl (by decide) (by decide) [0, 1, 2, 3, 4] rfl (by decide +kernel) rfl rfl rfl _ rfl (Nat.le_of_ble_eq_true rfl) d_PN_gatherNear_24 (by decide) (by decide) ?_
        have hx1 : pX0 ((pA nc, pC nc, pX nc, pL nc, R, pK nc, M) : PnT) (i : Int) = pX nc i := pX0_t (by show (0 : Int) ≤ (i : Int) ∧ (i : Int) < (pC nc : Int); (first | omega | (dsimp only [rN, rC, rF, rG, rH, rA, sN, sC, sI, sD, sO, sA, uN, uF, pA, pC, pX, pL, pR, pK, pM] at *; omega)))
        rw [hx1]
        have hx2 := nx i
        have hx3 := g2 i
        refine g_iload_n (pc := 27) hX 2 d_PN_gatherNear_27 rfl rfl ?_
        refine g_icmp_ge (pc := 28) (tgt := 42) hX d_PN_gatherNear_28 (by decide) (by (first | omega | (dsimp only [rN, rC, rF, rG, rH, rA, sN, sC, sI, sD, sO, sA, uN, uF, pA, pC, pX, pL, pR, pK, pM] at *; omega))) (by (first | omega | (dsimp only [rN, rC, rF, rG, rH, rA, sN, sC, sI, sD, sO, sA, uN, uF, pA, pC, pX, pL, pR, pK, pM] at *; omega))) (fun c_5 => ?_) (fun c_5 => ?_)
        · refine g_iinc (pc := 42) hX d_PN_gatherNear_42 (by decide) rfl ?_
          refine g_goto (pc := 45) (tgt := 14) hX d_PN_gatherNear_45 (by decide) ?_
          refine g_lv [(0, .ref n), (1, .int (iI (b : Int))), (2, .int (iI (e : Int))), (3, .ref g), (4, .ref p), (5, .int (iI (uN gc : Int))), (6, .int (iI ((i + 1 : Nat) : Int)))] ⟨rfl, rfl, rfl, rfl, rfl, rfl, rfl, trivial⟩ ?_
          exact ih (i + 1) M R (by (first | omega | (dsimp only [rN, rC, rF, rG, rH, rA, sN, sC, sI, sD, sO, sA, uN, uF, pA, pC, pX, pL, pR, pK, pM] at *; omega))) (by (first | omega | (dsimp only [rN, rC, rF, rG, rH, rA, sN, sC, sI, sD, sO, sA, uN, uF, pA, pC, pX, pL, pR, pK, pM] at *; omega))) (by (first | omega | (dsimp only [rN, rC, rF, rG, rH, rA, sN, sC, sI, sD, sO, sA, uN, uF, pA, pC, pX, pL, pR, pK, pM] at *; omega))) hri (by rw [hl, gpL_succ, if_neg (show ¬ pX nc i < (e : Int) by (first | omega | (dsimp only [rN, rC, rF, rG, rH, rA, sN, sC, sI, sD, sO, sA, uN, uF, pA, pC, pX, pL, pR, pK, pM] at *; omega))), List.append_nil])
        · refine g_aload_n (pc := 31) hX 0 d_PN_gatherNear_31 rfl rfl ?_
          refine g_aload_n (pc := 32) hX 3 d_PN_gatherNear_32 rfl rfl ?_
          refine g_iload (pc := 33) hX d_PN_gatherNear_33 rfl ?_
          refine g_i2l (pc := 35) hX d_PN_gatherNear_35 (by (first | omega | (dsimp only [rN, rC, rF, rG, rH, rA, sN, sC, sI, sD, sO, sA, uN, uF, pA, pC, pX, pL, pR, pK, pM] at *; omega))) ?_
          refine g_lV (pc := 36) hX (c_GL_name l E g gc gk _ (by (first | omega | (dsimp only [rN, rC, rF, rG, rH, rA, sN, sC, sI, sD, sO, sA, uN, uF, pA, pC, pX, pL, pR, pK, pM] at *; omega)))) gy_GL_name gv_GL_name w_398 rfl (by decide) (by decide) [5, 6] rfl (by decide +kernel) rfl rfl rfl _ rfl (Nat.le_of_ble_eq_true rfl) d_PN_gatherNear_36 (by decide) (by decide) ?_
          rw [show (if 0 ≤ (i : Int) ∧ (i : Int) < uN gc then uF gc (i : Int).toNat else 0) = uF gc i from if_pos (by (first | omega | (dsimp only [rN, rC, rF, rG, rH, rA, sN, sC, sI, sD, sO, sA, uN, uF, pA, pC, pX, pL, pR, pK, pM] at *; omega)))]
          refine g_callV (pc := 39) hX (c_PN_addNear l E n s ((pA nc, pC nc, pX nc, pL nc, R, pK nc, M) : PnT) hok _ (by (first | omega | (dsimp only [rN, rC, rF, rG, rH, rA, sN, sC, sI, sD, sO, sA, uN, uF, pA, pC, pX, pL, pR, pK, pM] at *; omega))) (show M < pC nc by (first | omega | (dsimp only [rN, rC, rF, rG, rH, rA, sN, sC, sI, sD, sO, sA, uN, uF, pA, pC, pX, pL, pR, pK, pM] at *; omega)))) gy_PN_addNear gv_PN_addNear w_402 rfl (by decide) (by decide) [0, 1, 2, 3, 4] rfl (by decide +kernel) rfl rfl rfl _ rfl (Nat.le_of_ble_eq_true rfl) d_PN_gatherNear_39 (by decide) (by decide) (fun _ _ _ _ h => by obtain ⟨_, _, h2, _⟩ := h; rw [h2]; exact Nat.le_of_ble_eq_true rfl) (fun v w dc_6 ds_6 hp => ?_)
          obtain ⟨n_6, rfl, rfl, nk_6, f_6_1, rfl, rfl⟩ := hp
          refine g_wsP (pnW E n s n_6 ++ glW E g gc ++ scW E s sc ++ rowW E p pc) rfl rfl ?_
          subst f_6_1
          refine g_ws (pnW E n s ((pA nc, pC nc, pX nc, pL nc, (uZ R M (uF gc i)), pK nc, (M + 1)) : PnT) ++ glW E g gc ++ scW E s sc ++ rowW E p pc) rfl ?_
          refine g_iinc (pc := 42) hX d_PN_gatherNear_42 (by decide) rfl ?_
          refine g_goto (pc := 45) (tgt := 14) hX d_PN_gatherNear_45 (by decide) ?_
          refine g_lv [(0, .ref n), (1, .int (iI (b : Int))), (2, .int (iI (e : Int))), (3, .ref g), (4, .ref p), (5, .int (iI (uN gc : Int))), (6, .int (iI ((i + 1 : Nat) : Int)))] ⟨rfl, rfl, rfl, rfl, rfl, rfl, rfl, trivial⟩ ?_
          exact ih (i + 1) (M + 1) (uZ R M (uF gc i)) (by (first | omega | (dsimp only [rN, rC, rF, rG, rH, rA, sN, sC, sI, sD, sO, sA, uN, uF, pA, pC, pX, pL, pR, pK, pM] at *; omega))) (by (first | omega | (dsimp only [rN, rC, rF, rG, rH, rA, sN, sC, sI, sD, sO, sA, uN, uF, pA, pC, pX, pL, pR, pK, pM] at *; omega))) (by (first | omega | (dsimp only [rN, rC, rF, rG, rH, rA, sN, sC, sI, sD, sO, sA, uN, uF, pA, pC, pX, pL, pR, pK, pM] at *; omega))) (uZ_gil hri (by (first | omega | (dsimp only [rN, rC, rF, rG, rH, rA, sN, sC, sI, sD, sO, sA, uN, uF, pA, pC, pX, pL, pR, pK, pM] at *; omega)))) (by rw [LR_add, hl, gpL_succ, if_pos (show pX nc i < (e : Int) by (first | omega | (dsimp only [rN, rC, rF, rG, rH, rA, sN, sC, sI, sD, sO, sA, uN, uF, pA, pC, pX, pL, pR, pK, pM] at *; omega)))])
  refine g_lv [(0, .ref n), (1, .int (iI (b : Int))), (2, .int (iI (e : Int))), (3, .ref g), (4, .ref p), (5, .int (iI (uN gc : Int))), (6, .int (iI ((0 : Nat) : Int)))] ⟨rfl, rfl, rfl, rfl, rfl, rfl, rfl, trivial⟩ ?_
  exact loop1 (uN gc + 1) 0 0 (pR nc) (by (first | omega | (dsimp only [rN, rC, rF, rG, rH, rA, sN, sC, sI, sD, sO, sA, uN, uF, pA, pC, pX, pL, pR, pK, pM] at *; omega))) (by (first | omega | (dsimp only [rN, rC, rF, rG, rH, rA, sN, sC, sI, sD, sO, sA, uN, uF, pA, pC, pX, pL, pR, pK, pM] at *; omega))) (by (first | omega | (dsimp only [rN, rC, rF, rG, rH, rA, sN, sC, sI, sD, sO, sA, uN, uF, pA, pC, pX, pL, pR, pK, pM] at *; omega))) nz rfl
  
