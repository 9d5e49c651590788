abbrev rm_PN_passUse : Room := { frames := 3, cells := 0, slots := 0, locals := 70 }
set_option maxHeartbeats 4000000 in
set_option maxRecDepth 100000 in
theorem c_PN_passUse (l : Launch) (E : gE) (n s : Nat) (nc : PnT) (nk : pnOK nc) (sc : ScT) (sk : scOK sc) (t : Nat) (tc : RowT) (tk : rowOK tc) (k : Nat) (σ : Nat → Nat) (hm : mea tc σ) (hs : scFor sc tc) (hk : k < rN tc) (hmt : mat (sO sc) (env (rF tc) k)) (hcl : clo (rF tc) (rG tc) 200 k) (hca : 200 + rN tc ≤ pC nc) : Ct l E y_PN_passUse b_PN_passUse 3 none rm_PN_passUse [.ref n, .int (iI (k : Int)), .ref t] (pnW E n s nc ++ scW E s sc ++ rowW E t tc) (fun vv ww dc ds => ∃ π, vv = none ∧ ww = pnW E n s π ++ scW E s sc ++ rowW E t tc ∧ pnOK π ∧ (π = (pA nc, pC nc, (if 0 ≤ useP (rF tc) (rG tc) k then uZ (pX nc) (useP (rF tc) (rG tc) k).toNat (pX nc (200 + k)) else pX nc), pL nc, pR nc, pK nc, pM nc) ∧ dc = 0 ∧ ds = 0)) := by
  obtain ⟨⟨n1, n2, n3⟩, nx, ny, nz, nu⟩ := id nk
  obtain ⟨⟨t1, t2, t3, t4⟩, tf, tg, th⟩ := id tk
  have hui := useP_in hm.1 hm.2.1 hk hcl
  have hx2 := pX0_in nk (200 + (k : Int))
  refine g_start (by decide) (Nat.le_of_ble_eq_true rfl) (fun X hX hE hin => ?_)
  refine g_aload_n (pc := 0) hX 0 d_PN_passUse_0 rfl rfl ?_
  refine g_aload_n (pc := 1) hX 0 d_PN_passUse_1 rfl rfl ?_
  refine g_iload_n (pc := 2) hX 1 d_PN_passUse_2 rfl rfl ?_
  refine g_aload_n (pc := 3) hX 2 d_PN_passUse_3 rfl rfl ?_
  refine g_iV (pc := 4) hX (c_PN_usedBy l E n s nc nk sc sk t tc tk k σ hm hs hk hmt hcl hca) gy_PN_usedBy gv_PN_usedBy w_362 rfl (by decide) (by decide) [0, 1, 2, 3, 4, 5, 6, 7, 8, 9, 10, 11, 12] rfl (by decide +kernel) rfl rfl rfl _ rfl (Nat.le_of_ble_eq_true rfl) d_PN_passUse_4 (by decide) (by decide) ?_
  refine g_aload_n (pc := 7) hX 0 d_PN_passUse_7 rfl rfl ?_
  refine g_sipush (pc := 8) hX 200 d_PN_passUse_8 (by decide) ?_
  refine g_iload_n (pc := 11) hX 1 d_PN_passUse_11 rfl rfl ?_
  refine g_iadd (pc := 12) hX d_PN_passUse_12 ?_
  refine g_iV (pc := 13) hX (c_PN_nextOf l E n s nc nk _ (by omega)) gy_PN_nextOf gv_PN_nextOf w_394 rfl (by decide) (by decide) [0, 1, 2, 3, 4] rfl (by decide +kernel) rfl rfl rfl _ rfl (Nat.le_of_ble_eq_true rfl) d_PN_passUse_13 (by decide) (by decide) ?_
  refine g_callV (pc := 16) hX (c_PN_setNext l E n s nc nk _ (by omega) _ (by omega)) gy_PN_setNext gv_PN_setNext w_373 rfl (by decide) (by decide) [0, 1, 2, 3, 4] rfl (by decide +kernel) rfl rfl rfl _ rfl (Nat.le_of_ble_eq_true rfl) d_PN_passUse_16 (by decide) (by decide) (fun _ _ _ _ h => by obtain ⟨_, _, h2, _⟩ := h; rw [h2]; exact Nat.le_of_ble_eq_true rfl) (fun v w dc_1 ds_1 hp => ?_)
  obtain ⟨n_1, rfl, rfl, nk_1, f_1_1, rfl, rfl⟩ := hp
  refine g_wsP (pnW E n s n_1 ++ scW E s sc ++ rowW E t tc) rfl rfl ?_
  have ex : (if 0 ≤ useP (rF tc) (rG tc) k ∧ useP (rF tc) (rG tc) k < pC nc then uZ (pX nc) (useP (rF tc) (rG tc) k).toNat (pX0 nc (200 + (k : Int))) else pX nc) = (if 0 ≤ useP (rF tc) (rG tc) k then uZ (pX nc) (useP (rF tc) (rG tc) k).toNat (pX nc (200 + k)) else pX nc) := by
    rw [pX0_t (by omega), show ((200 : Int) + (k : Int)).toNat = 200 + k by omega]
    by_cases h : 0 ≤ useP (rF tc) (rG tc) k
    · rw [if_pos h, if_pos (by omega)]
    · rw [if_neg h, if_neg (by omega)]
  rw [ex] at f_1_1
  exact g_vret (pc := 19) hX hE d_PN_passUse_19 (by decide) (by decide) ⟨n_1, rfl, rfl, nk_1, f_1_1, rfl, rfl⟩

abbrev rm_PN_linkUses : Room := { frames := 3, cells := 0, slots := 0, locals := 70 }
set_option maxHeartbeats 4000000 in
set_option maxRecDepth 100000 in
theorem c_PN_linkUses (l : Launch) (E : gE) (n s : Nat) (nc : PnT) (nk : pnOK nc) (sc : ScT) (sk : scOK sc) (t : Nat) (tc : RowT) (tk : rowOK tc) (σ : Nat → Nat) (hm : mea tc σ) (hs : scFor sc tc) (hca2 : ∀ k, k < rN tc → clo (rF tc) (rG tc) 200 k) (hca : 200 + rN tc ≤ pC nc) : Ct l E y_PN_linkUses b_PN_linkUses 6 none rm_PN_linkUses [.ref n, .ref t] (pnW E n s nc ++ scW E s sc ++ rowW E t tc) (fun vv ww dc ds => ∃ π, vv = none ∧ (∃ ς, ww = pnW E n s π ++ scW E s ς ++ rowW E t tc ∧ scOK ς ∧ scFor ς tc ∧ sC ς = sC sc) ∧ pnOK π ∧ (lnp (rF tc) (useP (rF tc) (rG tc)) (rN tc) (pX π) 0 ∧ pC π = pC nc ∧ dc = 0 ∧ ds = 0)) := by
  obtain ⟨⟨n1, n2, n3⟩, nx, ny, nz, nu⟩ := id nk
  obtain ⟨⟨t1, t2, t3, t4⟩, tf, tg, th⟩ := id tk
  obtain ⟨⟨s1, s2, s3, s4⟩, si, sd, so⟩ := id sk
  have huo := clo_use hm.1 hm.2.1 hca2
  have zs := hs.1
  have hst0 : ∀ e ∈ stk (rF tc) 0, mat (sO sc) e.tail := by
    intro e he
    have h9 : e = [] := by simpa [stk] using he
    rw [h9]; exact mat_nil _
  refine g_start (by decide) (Nat.le_of_ble_eq_true rfl) (fun X hX hE hin => ?_)
  refine g_sipush (pc := 0) hX 200 d_PN_linkUses_0 (by decide) ?_
  refine g_aload_n (pc := 3) hX 1 d_PN_linkUses_3 rfl rfl ?_
  refine g_iV (pc := 4) hX (c_RW_count l E t tc tk) gy_RW_count gv_RW_count w_350 rfl (by decide) (by decide) [9, 10, 11, 12] rfl (by decide +kernel) rfl rfl rfl _ rfl (Nat.le_of_ble_eq_true rfl) d_PN_linkUses_4 (by decide) (by decide) ?_
  refine g_iadd (pc := 7) hX d_PN_linkUses_7 ?_
  refine g_st (.int (iI ((200 + rN tc : Nat) : Int)) :: []) (by rw [show ((200 + rN tc : Nat) : Int) = 200 + (rN tc : Int) by (first | omega | (dsimp only [rN, rC, rF, rG, rH, rA, sN, sC, sI, sD, sO, sA, uN, uF, pA, pC, pX, pL, pR, pK, pM] at *; omega))] <;> rfl) ?_
  refine g_istore_n (pc := 8) hX 2 d_PN_linkUses_8 rfl (by decide) ?_
  refine g_iconst (pc := 9) hX d_PN_linkUses_9 ?_
  refine g_istore_n (pc := 10) hX 3 d_PN_linkUses_10 rfl (by decide) ?_
  have loop1 : ∀ (d : Nat) (p : Nat) (Xf Lf : Nat → Int), 200 + rN tc < p + d → p ≤ 200 + rN tc → (∀ j, gin (Xf j)) → (∀ j, gin (Lf j)) → (∀ j, j < p → Xf j = 3000 ∧ Lf j = j) → gW X (pnW E n s ((pA nc, pC nc, Xf, Lf, pR nc, pK nc, pM nc) : PnT) ++ scW E s sc ++ rowW E t tc) 0 0 11 [(0, .ref n), (1, .ref t), (2, .int (iI ((200 + rN tc : Nat) : Int))), (3, .int (iI (p : Int)))] [] := by
    intro d
    induction d with
    | zero => intro p Xf Lf hfu hp hxi hli hxl; (first | omega | (dsimp only [rN, rC, rF, rG, rH, rA, sN, sC, sI, sD, sO, sA, uN, uF, pA, pC, pX, pL, pR, pK, pM] at *; omega))
    | succ d ih =>
      intro p Xf Lf hfu hp hxi hli hxl
      have hok : pnOK ((pA nc, pC nc, Xf, Lf, pR nc, pK nc, pM nc) : PnT) := nk.u n3 hxi hli nz nu
      refine g_iload_n (pc := 11) hX 3 d_PN_linkUses_11 rfl rfl ?_
      refine g_iload_n (pc := 12) hX 2 d_PN_linkUses_12 rfl rfl ?_
      refine g_icmp_ge (pc := 13) (tgt := 47) hX d_PN_linkUses_13 (by decide) (by (first | omega | (dsimp only [rN, rC, rF, rG, rH, rA, sN, sC, sI, sD, sO, sA, uN, uF, pA, pC, pX, pL, pR, pK, pM] at *; omega))) (by (first | omega | (dsimp only [rN, rC, rF, rG, rH, rA, sN, sC, sI, sD, sO, sA, uN, uF, pA, pC, pX, pL, pR, pK, pM] at *; omega))) (fun c_1 => ?_) (fun c_1 => ?_)
      · refine g_aload_n (pc := 47) hX 1 d_PN_linkUses_47 rfl rfl ?_
        refine g_iV (pc := 48) hX (c_RW_count l E t tc tk) gy_RW_count gv_RW_count w_350 rfl (by decide) (by decide) [9, 10, 11, 12] rfl (by decide +kernel) rfl rfl rfl _ rfl (Nat.le_of_ble_eq_true rfl) d_PN_linkUses_48 (by decide) (by decide) ?_
        refine g_istore_n (pc := 51) hX 3 d_PN_linkUses_51 rfl (by decide) ?_
        refine g_iconst (pc := 52) hX d_PN_linkUses_52 ?_
        refine g_istore (pc := 53) hX d_PN_linkUses_53 (by decide) ?_
        have loop2 : ∀ (d : Nat) (k : Nat) (Xf Lf : Nat → Int) (O : Nat → Int), rN tc < k + d → k ≤ rN tc → (∀ j, gin (Xf j)) → (∀ j, gin (Lf j)) → lnk (rF tc) (useP (rF tc) (rG tc)) (rN tc) Xf Lf k → (∀ j, gin (O j)) → (∀ e ∈ stk (rF tc) k, mat O e.tail) → gW X (pnW E n s ((pA nc, pC nc, Xf, Lf, pR nc, pK nc, pM nc) : PnT) ++ scW E s ((sA sc, sN sc, sC sc, sI sc, sD sc, O) : ScT) ++ rowW E t tc) 0 0 55 [(0, .ref n), (1, .ref t), (3, .int (iI (rN tc : Int))), (4, .int (iI (k : Int)))] [] := by
          intro d
          induction d with
          | zero => intro k Xf Lf O hfu hkk hxi hli hln ho hst; (first | omega | (dsimp only [rN, rC, rF, rG, rH, rA, sN, sC, sI, sD, sO, sA, uN, uF, pA, pC, pX, pL, pR, pK, pM] at *; omega))
          | succ d ih =>
            intro k Xf Lf O hfu hkk hxi hli hln ho hst
            have hok : pnOK ((pA nc, pC nc, Xf, Lf, pR nc, pK nc, pM nc) : PnT) := nk.u n3 hxi hli nz nu
            have hso : scOK ((sA sc, sN sc, sC sc, sI sc, sD sc, O) : ScT) := sk.u ⟨s1, s2⟩ si sd ho
            have hsf : scFor ((sA sc, sN sc, sC sc, sI sc, sD sc, O) : ScT) tc := hs
            refine g_iload (pc := 55) hX d_PN_linkUses_55 rfl ?_
            refine g_iload_n (pc := 57) hX 3 d_PN_linkUses_57 rfl rfl ?_
            refine g_icmp_ge (pc := 58) (tgt := 117) hX d_PN_linkUses_58 (by decide) (by (first | omega | (dsimp only [rN, rC, rF, rG, rH, rA, sN, sC, sI, sD, sO, sA, uN, uF, pA, pC, pX, pL, pR, pK, pM] at *; omega))) (by (first | omega | (dsimp only [rN, rC, rF, rG, rH, rA, sN, sC, sI, sD, sO, sA, uN, uF, pA, pC, pX, pL, pR, pK, pM] at *; omega))) (fun c_2 => ?_) (fun c_2 => ?_)
            · exact g_vret (pc := 117) hX hE d_PN_linkUses_117 (by decide) (by decide) ⟨((pA nc, pC nc, Xf, Lf, pR nc, pK nc, pM nc) : PnT), rfl, ⟨((sA sc, sN sc, sC sc, sI sc, sD sc, O) : ScT), rfl, hso, hsf, rfl⟩, hok, lnk_end (by have e9 : k = rN tc := (by (first | omega | (dsimp only [rN, rC, rF, rG, rH, rA, sN, sC, sI, sD, sO, sA, uN, uF, pA, pC, pX, pL, pR, pK, pM] at *; omega))); rw [e9] at hln; exact hln), rfl, rfl, rfl⟩
            · refine g_aload_n (pc := 61) hX 0 d_PN_linkUses_61 rfl rfl ?_
              refine g_get (pc := 62) hX f_PN_12 0 rfl rfl d_PN_linkUses_62 ?_
              refine g_iload (pc := 65) hX d_PN_linkUses_65 rfl ?_
              refine g_callV (pc := 67) hX (c_SC_enter l E s ((sA sc, sN sc, sC sc, sI sc, sD sc, O) : ScT) hso _ (by (first | omega | (dsimp only [rN, rC, rF, rG, rH, rA, sN, sC, sI, sD, sO, sA, uN, uF, pA, pC, pX, pL, pR, pK, pM] at *; omega)))) gy_SC_enter gv_SC_enter w_361 rfl (by decide) (by decide) [5, 6, 7, 8] rfl (by decide +kernel) rfl rfl rfl _ rfl (Nat.le_of_ble_eq_true rfl) d_PN_linkUses_67 (by decide) (by decide) (fun _ _ _ _ h => by obtain ⟨_, _, h2, _⟩ := h; rw [h2]; exact Nat.le_of_ble_eq_true rfl) (fun v w dc_3 ds_3 hp => ?_)
              obtain ⟨s_3, rfl, rfl, sk_3, f_3_1, rfl, rfl⟩ := hp
              refine g_wsP (pnW E n s ((pA nc, pC nc, Xf, Lf, pR nc, pK nc, pM nc) : PnT) ++ scW E s s_3 ++ rowW E t tc) rfl rfl ?_
              obtain ⟨e1, e2, e3⟩ := ent hso hsf hm (show k < rN tc by (first | omega | (dsimp only [rN, rC, rF, rG, rH, rA, sN, sC, sI, sD, sO, sA, uN, uF, pA, pC, pX, pL, pR, pK, pM] at *; omega))) hst
              have hso2 : scOK ((sA sc, sN sc, sC sc, sI sc, sD sc, enO ((sA sc, sN sc, sC sc, sI sc, sD sc, O) : ScT) (k : Int)) : ScT) := sk.u ⟨s1, s2⟩ si sd e3
              subst f_3_1
              refine g_ws (pnW E n s ((pA nc, pC nc, Xf, Lf, pR nc, pK nc, pM nc) : PnT) ++ scW E s ((sA sc, sN sc, sC sc, sI sc, sD sc, enO ((sA sc, sN sc, sC sc, sI sc, sD sc, O) : ScT) (k : Int)) : ScT) ++ rowW E t tc) rfl ?_
              have hsf2 : scFor ((sA sc, sN sc, sC sc, sI sc, sD sc, enO ((sA sc, sN sc, sC sc, sI sc, sD sc, O) : ScT) (k : Int)) : ScT) tc := hs
              have hui := useP_in hm.1 hm.2.1 (show k < rN tc by (first | omega | (dsimp only [rN, rC, rF, rG, rH, rA, sN, sC, sI, sD, sO, sA, uN, uF, pA, pC, pX, pL, pR, pK, pM] at *; omega))) (hca2 k (by (first | omega | (dsimp only [rN, rC, rF, rG, rH, rA, sN, sC, sI, sD, sO, sA, uN, uF, pA, pC, pX, pL, pR, pK, pM] at *; omega))))
              refine g_aload_n (pc := 70) hX 0 d_PN_linkUses_70 rfl rfl ?_
              refine g_iload (pc := 71) hX d_PN_linkUses_71 rfl ?_
              refine g_aload_n (pc := 73) hX 1 d_PN_linkUses_73 rfl rfl ?_
              refine g_iV (pc := 74) hX (c_PN_usedBy l E n s ((pA nc, pC nc, Xf, Lf, pR nc, pK nc, pM nc) : PnT) hok ((sA sc, sN sc, sC sc, sI sc, sD sc, enO ((sA sc, sN sc, sC sc, sI sc, sD sc, O) : ScT) (k : Int)) : ScT) hso2 t tc tk k σ hm hsf2 (by (first | omega | (dsimp only [rN, rC, rF, rG, rH, rA, sN, sC, sI, sD, sO, sA, uN, uF, pA, pC, pX, pL, pR, pK, pM] at *; omega))) e1 (hca2 k (by (first | omega | (dsimp only [rN, rC, rF, rG, rH, rA, sN, sC, sI, sD, sO, sA, uN, uF, pA, pC, pX, pL, pR, pK, pM] at *; omega)))) hca) gy_PN_usedBy gv_PN_usedBy w_362 rfl (by decide) (by decide) [0, 1, 2, 3, 4, 5, 6, 7, 8, 9, 10, 11, 12] rfl (by decide +kernel) rfl rfl rfl _ rfl (Nat.le_of_ble_eq_true rfl) d_PN_linkUses_74 (by decide) (by decide) ?_
              refine g_istore (pc := 77) hX d_PN_linkUses_77 (by decide) ?_
              refine g_iload (pc := 79) hX d_PN_linkUses_79 rfl ?_
              refine g_iconst (pc := 81) hX d_PN_linkUses_81 ?_
              refine g_icmp_eq (pc := 82) (tgt := 111) hX d_PN_linkUses_82 (by decide) (by (first | omega | (dsimp only [rN, rC, rF, rG, rH, rA, sN, sC, sI, sD, sO, sA, uN, uF, pA, pC, pX, pL, pR, pK, pM] at *; omega))) (by (first | omega | (dsimp only [rN, rC, rF, rG, rH, rA, sN, sC, sI, sD, sO, sA, uN, uF, pA, pC, pX, pL, pR, pK, pM] at *; omega))) (fun c_4 => ?_) (fun c_4 => ?_)
              · refine g_iinc (pc := 111) hX d_PN_linkUses_111 (by decide) rfl ?_
                refine g_goto (pc := 114) (tgt := 55) hX d_PN_linkUses_114 (by decide) ?_
                refine g_lv [(0, .ref n), (1, .ref t), (3, .int (iI (rN tc : Int))), (4, .int (iI ((k + 1 : Nat) : Int)))] ⟨rfl, rfl, rfl, rfl, trivial⟩ ?_
                exact ih (k + 1) Xf Lf _ (by (first | omega | (dsimp only [rN, rC, rF, rG, rH, rA, sN, sC, sI, sD, sO, sA, uN, uF, pA, pC, pX, pL, pR, pK, pM] at *; omega))) (by (first | omega | (dsimp only [rN, rC, rF, rG, rH, rA, sN, sC, sI, sD, sO, sA, uN, uF, pA, pC, pX, pL, pR, pK, pM] at *; omega))) hxi hli (lnk_no hln (by (first | omega | (dsimp only [rN, rC, rF, rG, rH, rA, sN, sC, sI, sD, sO, sA, uN, uF, pA, pC, pX, pL, pR, pK, pM] at *; omega))) (by (first | omega | (dsimp only [rN, rC, rF, rG, rH, rA, sN, sC, sI, sD, sO, sA, uN, uF, pA, pC, pX, pL, pR, pK, pM] at *; omega)))) e3 e2
              · obtain ⟨u0, hu0⟩ : ∃ u0 : Nat, useP (rF tc) (rG tc) k = u0 := ⟨(useP (rF tc) (rG tc) k).toNat, by (first | omega | (dsimp only [rN, rC, rF, rG, rH, rA, sN, sC, sI, sD, sO, sA, uN, uF, pA, pC, pX, pL, pR, pK, pM] at *; omega))⟩
                obtain ⟨hl1, hl2, hl3⟩ := lnk_use huo (by (first | omega | (dsimp only [rN, rC, rF, rG, rH, rA, sN, sC, sI, sD, sO, sA, uN, uF, pA, pC, pX, pL, pR, pK, pM] at *; omega))) hln (show k < rN tc by (first | omega | (dsimp only [rN, rC, rF, rG, rH, rA, sN, sC, sI, sD, sO, sA, uN, uF, pA, pC, pX, pL, pR, pK, pM] at *; omega))) (by (first | omega | (dsimp only [rN, rC, rF, rG, rH, rA, sN, sC, sI, sD, sO, sA, uN, uF, pA, pC, pX, pL, pR, pK, pM] at *; omega)))
                rw [hu0] at hl1 hl2 hl3 ⊢
                simp only [Int.toNat_natCast] at hl1 hl2 hl3
                refine g_aload_n (pc := 85) hX 0 d_PN_linkUses_85 rfl rfl ?_
                refine g_aload_n (pc := 86) hX 0 d_PN_linkUses_86 rfl rfl ?_
                refine g_get (pc := 87) hX f_PN_22 0 rfl rfl d_PN_linkUses_87 ?_
                refine g_iload (pc := 90) hX d_PN_linkUses_90 rfl ?_
                have hq1 := hli u0
                refine g_iald (pc := 92) hX 2 rfl (by (first | omega | (dsimp only [rN, rC, rF, rG, rH, rA, sN, sC, sI, sD, sO, sA, uN, uF, pA, pC, pX, pL, pR, pK, pM] at *; omega))) d_PN_linkUses_92 ?_
                refine g_iload (pc := 93) hX d_PN_linkUses_93 rfl ?_
                refine g_callV (pc := 95) hX (c_PN_setNext l E n s ((pA nc, pC nc, Xf, Lf, pR nc, pK nc, pM nc) : PnT) hok _ (show gin (Lf u0) by (first | omega | (dsimp only [rN, rC, rF, rG, rH, rA, sN, sC, sI, sD, sO, sA, uN, uF, pA, pC, pX, pL, pR, pK, pM] at *; omega))) _ (by (first | omega | (dsimp only [rN, rC, rF, rG, rH, rA, sN, sC, sI, sD, sO, sA, uN, uF, pA, pC, pX, pL, pR, pK, pM] at *; omega)))) gy_PN_setNext gv_PN_setNext w_373 rfl (by decide) (by decide) [0, 1, 2, 3, 4] rfl (by decide +kernel) rfl rfl rfl _ rfl (Nat.le_of_ble_eq_true rfl) d_PN_linkUses_95 (by decide) (by decide) (fun _ _ _ _ h => by obtain ⟨_, _, h2, _⟩ := h; rw [h2]; exact Nat.le_of_ble_eq_true rfl) (fun v w dc_5 ds_5 hp => ?_)
                obtain ⟨n_5, rfl, rfl, nk_5, f_5_1, rfl, rfl⟩ := hp
                refine g_wsP (pnW E n s n_5 ++ scW E s ((sA sc, sN sc, sC sc, sI sc, sD sc, enO ((sA sc, sN sc, sC sc, sI sc, sD sc, O) : ScT) (k : Int)) : ScT) ++ rowW E t tc) rfl rfl ?_
                subst f_5_1
                have hok3 : pnOK ((pA nc, pC nc, (uZ Xf (Lf u0).toNat (k : Int)), Lf, pR nc, pK nc, pM nc) : PnT) := nk.u n3 (uZ_gin hxi (by (first | omega | (dsimp only [rN, rC, rF, rG, rH, rA, sN, sC, sI, sD, sO, sA, uN, uF, pA, pC, pX, pL, pR, pK, pM] at *; omega)))) hli nz nu
                refine g_ws (pnW E n s ((pA nc, pC nc, (uZ Xf (Lf u0).toNat (k : Int)), Lf, pR nc, pK nc, pM nc) : PnT) ++ scW E s ((sA sc, sN sc, sC sc, sI sc, sD sc, enO ((sA sc, sN sc, sC sc, sI sc, sD sc, O) : ScT) (k : Int)) : ScT) ++ rowW E t tc) (by rw [show (if 0 ≤ Lf u0 ∧ Lf u0 < pC ((pA nc, pC nc, Xf, Lf, pR nc, pK nc, pM nc) : PnT) then uZ (pX ((pA nc, pC nc, Xf, Lf, pR nc, pK nc, pM nc) : PnT)) (Lf u0).toNat (k : Int) else pX ((pA nc, pC nc, Xf, Lf, pR nc, pK nc, pM nc) : PnT)) = (uZ Xf (Lf u0).toNat (k : Int)) from if_pos (by show 0 ≤ Lf u0 ∧ Lf u0 < (pC nc : Int); (first | omega | (dsimp only [rN, rC, rF, rG, rH, rA, sN, sC, sI, sD, sO, sA, uN, uF, pA, pC, pX, pL, pR, pK, pM] at *; omega)))] <;> rfl) ?_
                refine g_aload_n (pc := 98) hX 0 d_PN_linkUses_98 rfl rfl ?_
                refine g_get (pc := 99) hX f_PN_22 0 rfl rfl d_PN_linkUses_99 ?_
                refine g_iload (pc := 102) hX d_PN_linkUses_102 rfl ?_
                refine g_sipush (pc := 104) hX 200 d_PN_linkUses_104 (by decide) ?_
                refine g_iload (pc := 107) hX d_PN_linkUses_107 rfl ?_
                refine g_iadd (pc := 109) hX d_PN_linkUses_109 ?_
                refine g_iast (pc := 110) hX 2 rfl (by (first | omega | (dsimp only [rN, rC, rF, rG, rH, rA, sN, sC, sI, sD, sO, sA, uN, uF, pA, pC, pX, pL, pR, pK, pM] at *; omega))) d_PN_linkUses_110 ?_
                refine g_iinc (pc := 111) hX d_PN_linkUses_111 (by decide) rfl ?_
                refine g_goto (pc := 114) (tgt := 55) hX d_PN_linkUses_114 (by decide) ?_
                refine g_lv [(0, .ref n), (1, .ref t), (3, .int (iI (rN tc : Int))), (4, .int (iI ((k + 1 : Nat) : Int)))] ⟨rfl, rfl, rfl, rfl, trivial⟩ ?_
                exact ih (k + 1) _ _ _ (by (first | omega | (dsimp only [rN, rC, rF, rG, rH, rA, sN, sC, sI, sD, sO, sA, uN, uF, pA, pC, pX, pL, pR, pK, pM] at *; omega))) (by (first | omega | (dsimp only [rN, rC, rF, rG, rH, rA, sN, sC, sI, sD, sO, sA, uN, uF, pA, pC, pX, pL, pR, pK, pM] at *; omega))) (uZ_gin hxi (by (first | omega | (dsimp only [rN, rC, rF, rG, rH, rA, sN, sC, sI, sD, sO, sA, uN, uF, pA, pC, pX, pL, pR, pK, pM] at *; omega)))) (uZ_gin hli (by (first | omega | (dsimp only [rN, rC, rF, rG, rH, rA, sN, sC, sI, sD, sO, sA, uN, uF, pA, pC, pX, pL, pR, pK, pM] at *; omega)))) hl3 e3 e2
        refine g_lv [(0, .ref n), (1, .ref t), (3, .int (iI (rN tc : Int))), (4, .int (iI ((0 : Nat) : Int)))] ⟨rfl, rfl, rfl, rfl, trivial⟩ ?_
        exact loop2 (rN tc + 1) 0 Xf Lf (sO sc) (by (first | omega | (dsimp only [rN, rC, rF, rG, rH, rA, sN, sC, sI, sD, sO, sA, uN, uF, pA, pC, pX, pL, pR, pK, pM] at *; omega))) (by (first | omega | (dsimp only [rN, rC, rF, rG, rH, rA, sN, sC, sI, sD, sO, sA, uN, uF, pA, pC, pX, pL, pR, pK, pM] at *; omega))) hxi hli (lnk_0 (fun p hp => hxl p (by (first | omega | (dsimp only [rN, rC, rF, rG, rH, rA, sN, sC, sI, sD, sO, sA, uN, uF, pA, pC, pX, pL, pR, pK, pM] at *; omega))))) so hst0
        
      · refine g_iload_n (pc := 16) hX 3 d_PN_linkUses_16 rfl rfl ?_
        refine g_aload_n (pc := 17) hX 0 d_PN_linkUses_17 rfl rfl ?_
        refine g_get (pc := 18) hX f_PN_18 0 rfl rfl d_PN_linkUses_18 ?_
        refine g_alenI (pc := 21) hX 1 rfl d_PN_linkUses_21 ?_
        refine g_icmp_ge (pc := 22) (tgt := 47) hX d_PN_linkUses_22 (by decide) (by (first | omega | (dsimp only [rN, rC, rF, rG, rH, rA, sN, sC, sI, sD, sO, sA, uN, uF, pA, pC, pX, pL, pR, pK, pM] at *; omega))) (by (first | omega | (dsimp only [rN, rC, rF, rG, rH, rA, sN, sC, sI, sD, sO, sA, uN, uF, pA, pC, pX, pL, pR, pK, pM] at *; omega))) (fun c_6 => ?_) (fun c_6 => ?_)
        · exfalso; (first | omega | (dsimp only [rN, rC, rF, rG, rH, rA, sN, sC, sI, sD, sO, sA, uN, uF, pA, pC, pX, pL, pR, pK, pM] at *; omega))
        · refine g_aload_n (pc := 25) hX 0 d_PN_linkUses_25 rfl rfl ?_
          refine g_get (pc := 26) hX f_PN_18 0 rfl rfl d_PN_linkUses_26 ?_
          refine g_iload_n (pc := 29) hX 3 d_PN_linkUses_29 rfl rfl ?_
          refine g_sipush (pc := 30) hX 3000 d_PN_linkUses_30 (by decide) ?_
          refine g_iast (pc := 33) hX 1 rfl (by (first | omega | (dsimp only [rN, rC, rF, rG, rH, rA, sN, sC, sI, sD, sO, sA, uN, uF, pA, pC, pX, pL, pR, pK, pM] at *; omega))) d_PN_linkUses_33 ?_
          refine g_aload_n (pc := 34) hX 0 d_PN_linkUses_34 rfl rfl ?_
          refine g_get (pc := 35) hX f_PN_22 0 rfl rfl d_PN_linkUses_35 ?_
          refine g_iload_n (pc := 38) hX 3 d_PN_linkUses_38 rfl rfl ?_
          refine g_iload_n (pc := 39) hX 3 d_PN_linkUses_39 rfl rfl ?_
          refine g_iast (pc := 40) hX 2 rfl (by (first | omega | (dsimp only [rN, rC, rF, rG, rH, rA, sN, sC, sI, sD, sO, sA, uN, uF, pA, pC, pX, pL, pR, pK, pM] at *; omega))) d_PN_linkUses_40 ?_
          refine g_iinc (pc := 41) hX d_PN_linkUses_41 (by decide) rfl ?_
          refine g_goto (pc := 44) (tgt := 11) hX d_PN_linkUses_44 (by decide) ?_
          refine g_lv [(0, .ref n), (1, .ref t), (2, .int (iI ((200 + rN tc : Nat) : Int))), (3, .int (iI ((p + 1 : Nat) : Int)))] ⟨rfl, rfl, rfl, rfl, trivial⟩ ?_
          exact ih (p + 1) (uZ Xf p 3000) (uZ Lf p (p : Int)) (by (first | omega | (dsimp only [rN, rC, rF, rG, rH, rA, sN, sC, sI, sD, sO, sA, uN, uF, pA, pC, pX, pL, pR, pK, pM] at *; omega))) (by (first | omega | (dsimp only [rN, rC, rF, rG, rH, rA, sN, sC, sI, sD, sO, sA, uN, uF, pA, pC, pX, pL, pR, pK, pM] at *; omega))) (uZ_gin hxi (by decide)) (uZ_gin hli (by (first | omega | (dsimp only [rN, rC, rF, rG, rH, rA, sN, sC, sI, sD, sO, sA, uN, uF, pA, pC, pX, pL, pR, pK, pM] at *; omega)))) (fun j hj => by
            by_cases e : j = p
            · subst e; exact ⟨uZ_s, uZ_s⟩
            · rw [uZ_n e, uZ_n e]; exact hxl j (by (first | omega | (dsimp only [rN, rC, rF, rG, rH, rA, sN, sC, sI, sD, sO, sA, uN, uF, pA, pC, pX, pL, pR, pK, pM] at *; omega))))
  refine g_lv [(0, .ref n), (1, .ref t), (2, .int (iI ((200 + rN tc : Nat) : Int))), (3, .int (iI ((0 : Nat) : Int)))] ⟨rfl, rfl, rfl, rfl, trivial⟩ ?_
  exact loop1 (200 + rN tc + 1) 0 (pX nc) (pL nc) (by (first | omega | (dsimp only [rN, rC, rF, rG, rH, rA, sN, sC, sI, sD, sO, sA, uN, uF, pA, pC, pX, pL, pR, pK, pM] at *; omega))) (by (first | omega | (dsimp only [rN, rC, rF, rG, rH, rA, sN, sC, sI, sD, sO, sA, uN, uF, pA, pC, pX, pL, pR, pK, pM] at *; omega))) nx ny (fun j hj => by (first | omega | (dsimp only [rN, rC, rF, rG, rH, rA, sN, sC, sI, sD, sO, sA, uN, uF, pA, pC, pX, pL, pR, pK, pM] at *; omega)))
  
