abbrev rm_PN_leastNumber : Room := { frames := 2, cells := 0, slots := 0, locals := 51 }
set_option maxHeartbeats 4000000 in
set_option maxRecDepth 100000 in
theorem c_PN_leastNumber (l : Launch) (E : gE) (n s : Nat) (nc : PnT) (nk : pnOK nc) (z : Int) (hz : gil z) (hR : ∀ i, i < pM nc → 0 ≤ pR nc i) : Ct l E y_PN_leastNumber b_PN_leastNumber 5 (some .int) rm_PN_leastNumber [.ref n, .long (lI z)] (pnW E n s nc) (fun vv ww dc ds => ∃ π, ∃ r : Nat, vv = some (.int (iI r)) ∧ ww = pnW E n s π ∧ pnOK π ∧ ((pC π = pC nc ∧ pX π = pX nc ∧ pL π = pL nc ∧ pR π = pR nc ∧ pM π = pM nc) ∧ leastN z (pM nc) (pR nc) r ∧ dc = 0 ∧ ds = 0)) := by
  obtain ⟨⟨n1, n2, n3⟩, nx, ny, nz, nu⟩ := id nk
  refine g_start (by decide) (Nat.le_of_ble_eq_true rfl) (fun X hX hE hin => ?_)
  refine g_iconst (pc := 0) hX d_PN_leastNumber_0 ?_
  refine g_istore_n (pc := 1) hX 3 d_PN_leastNumber_1 rfl (by decide) ?_
  have loop1 : ∀ (d : Nat) (i : Nat) (K : Nat → Int), pM nc < i + d → i ≤ pM nc → (∀ j, gin (K j)) → (∀ j, j < i → K j = 0) → gW X (pnW E n s ((pA nc, pC nc, pX nc, pL nc, pR nc, K, pM nc) : PnT)) 0 0 2 [(0, .ref n), (1, .long (lI z)), (3, .int (iI (i : Int)))] [] := by
    intro d
    induction d with
    | zero => intro i K hfu hi hki hz1; (first | omega | (dsimp only [rN, rC, rF, rG, rH, rA, sN, sC, sI, sD, sO, sA, uN, uF, pA, pC, pX, pL, pR, pK, pM] at *; omega))
    | succ d ih =>
      intro i K hfu hi hki hz1
      have hok : pnOK ((pA nc, pC nc, pX nc, pL nc, pR nc, K, pM nc) : PnT) := nk.u n3 nx ny nz hki
      refine g_iload_n (pc := 2) hX 3 d_PN_leastNumber_2 rfl rfl ?_
      refine g_aload_n (pc := 3) hX 0 d_PN_leastNumber_3 rfl rfl ?_
      refine g_get (pc := 4) hX f_PN_33 0 rfl rfl d_PN_leastNumber_4 ?_
      refine g_icmp_ge (pc := 7) (tgt := 32) hX d_PN_leastNumber_7 (by decide) (by (first | omega | (dsimp only [rN, rC, rF, rG, rH, rA, sN, sC, sI, sD, sO, sA, uN, uF, pA, pC, pX, pL, pR, pK, pM] at *; omega))) (by (first | omega | (dsimp only [rN, rC, rF, rG, rH, rA, sN, sC, sI, sD, sO, sA, uN, uF, pA, pC, pX, pL, pR, pK, pM] at *; omega))) (fun c_1 => ?_) (fun c_1 => ?_)
      · have hz0 : ∀ j, j < pM nc → K j = 0 := fun j hj => hz1 j (by (first | omega | (dsimp only [rN, rC, rF, rG, rH, rA, sN, sC, sI, sD, sO, sA, uN, uF, pA, pC, pX, pL, pR, pK, pM] at *; omega)))
        refine g_iconst (pc := 32) hX d_PN_leastNumber_32 ?_
        refine g_istore_n (pc := 33) hX 3 d_PN_leastNumber_33 rfl (by decide) ?_
        have loop2 : ∀ (d : Nat) (i : Nat) (K : Nat → Int), pM nc < i + d → i ≤ pM nc → (∀ j, gin (K j)) → (∀ j, j < pM nc → (K j = 0 ∨ K j = 1) ∧ (K j = 1 ↔ 1 ≤ j ∧ ∃ a, a < i ∧ nbh z 7 (pR nc a) 0 1 = j)) → gW X (pnW E n s ((pA nc, pC nc, pX nc, pL nc, pR nc, K, pM nc) : PnT)) 0 0 34 [(0, .ref n), (1, .long (lI z)), (3, .int (iI (i : Int)))] [] := by
          intro d
          induction d with
          | zero => intro i K hfu2 hi2 hki hinv; (first | omega | (dsimp only [rN, rC, rF, rG, rH, rA, sN, sC, sI, sD, sO, sA, uN, uF, pA, pC, pX, pL, pR, pK, pM] at *; omega))
          | succ d ih =>
            intro i K hfu2 hi2 hki hinv
            have hok : pnOK ((pA nc, pC nc, pX nc, pL nc, pR nc, K, pM nc) : PnT) := nk.u n3 nx ny nz hki
            refine g_iload_n (pc := 34) hX 3 d_PN_leastNumber_34 rfl rfl ?_
            refine g_aload_n (pc := 35) hX 0 d_PN_leastNumber_35 rfl rfl ?_
            refine g_get (pc := 36) hX f_PN_33 0 rfl rfl d_PN_leastNumber_36 ?_
            refine g_icmp_ge (pc := 39) (tgt := 101) hX d_PN_leastNumber_39 (by decide) (by (first | omega | (dsimp only [rN, rC, rF, rG, rH, rA, sN, sC, sI, sD, sO, sA, uN, uF, pA, pC, pX, pL, pR, pK, pM] at *; omega))) (by (first | omega | (dsimp only [rN, rC, rF, rG, rH, rA, sN, sC, sI, sD, sO, sA, uN, uF, pA, pC, pX, pL, pR, pK, pM] at *; omega))) (fun c_2 => ?_) (fun c_2 => ?_)
            · refine g_iconst (pc := 101) hX d_PN_leastNumber_101 ?_
              refine g_istore_n (pc := 102) hX 3 d_PN_leastNumber_102 rfl (by decide) ?_
              have loop3 : ∀ (d : Nat) (q : Nat), pM nc + 1 < q + d → 1 ≤ q → (q ≤ pM nc ∨ q = 1) → (∀ m : Nat, 1 ≤ m → m < q → ∃ i, i < pM nc ∧ nbh z 7 (pR nc i) 0 1 = m) → gW X (pnW E n s ((pA nc, pC nc, pX nc, pL nc, pR nc, K, pM nc) : PnT)) 0 0 103 [(0, .ref n), (1, .long (lI z)), (3, .int (iI (q : Int)))] [] := by
                intro d
                induction d with
                | zero => intro q hfu3 hq1 hq2 hq3; (first | omega | (dsimp only [rN, rC, rF, rG, rH, rA, sN, sC, sI, sD, sO, sA, uN, uF, pA, pC, pX, pL, pR, pK, pM] at *; omega))
                | succ d ih =>
                  intro q hfu3 hq1 hq2 hq3
                  refine g_iload_n (pc := 103) hX 3 d_PN_leastNumber_103 rfl rfl ?_
                  refine g_aload_n (pc := 104) hX 0 d_PN_leastNumber_104 rfl rfl ?_
                  refine g_get (pc := 105) hX f_PN_33 0 rfl rfl d_PN_leastNumber_105 ?_
                  refine g_icmp_ge (pc := 108) (tgt := 137) hX d_PN_leastNumber_108 (by decide) (by (first | omega | (dsimp only [rN, rC, rF, rG, rH, rA, sN, sC, sI, sD, sO, sA, uN, uF, pA, pC, pX, pL, pR, pK, pM] at *; omega))) (by (first | omega | (dsimp only [rN, rC, rF, rG, rH, rA, sN, sC, sI, sD, sO, sA, uN, uF, pA, pC, pX, pL, pR, pK, pM] at *; omega))) (fun c_3 => ?_) (fun c_3 => ?_)
                  · refine g_iconst (pc := 137) hX d_PN_leastNumber_137 ?_
                    refine g_aload_n (pc := 138) hX 0 d_PN_leastNumber_138 rfl rfl ?_
                    refine g_get (pc := 139) hX f_PN_33 0 rfl rfl d_PN_leastNumber_139 ?_
                    refine g_mmax (pc := 142) hX w_415 w_172 w_8 w_173 (by decide) (by decide) (Nat.le_of_ble_eq_true rfl) (by decide) (by decide) (by (first | omega | (dsimp only [rN, rC, rF, rG, rH, rA, sN, sC, sI, sD, sO, sA, uN, uF, pA, pC, pX, pL, pR, pK, pM] at *; omega))) (by (first | omega | (dsimp only [rN, rC, rF, rG, rH, rA, sN, sC, sI, sD, sO, sA, uN, uF, pA, pC, pX, pL, pR, pK, pM] at *; omega))) d_PN_leastNumber_142 ?_
                    exact g_iret (pc := 145) hX hE d_PN_leastNumber_145 (by decide) (by decide) ⟨((pA nc, pC nc, pX nc, pL nc, pR nc, K, pM nc) : PnT), (max 1 (pM nc)), by congr 3; split <;> (first | omega | (dsimp only [rN, rC, rF, rG, rH, rA, sN, sC, sI, sD, sO, sA, uN, uF, pA, pC, pX, pL, pR, pK, pM] at *; omega)), rfl, hok, ⟨rfl, rfl, rfl, rfl, rfl⟩, ⟨by (first | omega | (dsimp only [rN, rC, rF, rG, rH, rA, sN, sC, sI, sD, sO, sA, uN, uF, pA, pC, pX, pL, pR, pK, pM] at *; omega)), by (first | omega | (dsimp only [rN, rC, rF, rG, rH, rA, sN, sC, sI, sD, sO, sA, uN, uF, pA, pC, pX, pL, pR, pK, pM] at *; omega)), fun m h1 h2 => hq3 m h1 (by (first | omega | (dsimp only [rN, rC, rF, rG, rH, rA, sN, sC, sI, sD, sO, sA, uN, uF, pA, pC, pX, pL, pR, pK, pM] at *; omega))), fun h9 => by (first | omega | (dsimp only [rN, rC, rF, rG, rH, rA, sN, sC, sI, sD, sO, sA, uN, uF, pA, pC, pX, pL, pR, pK, pM] at *; omega))⟩, rfl, rfl⟩
                  · refine g_iload_n (pc := 111) hX 3 d_PN_leastNumber_111 rfl rfl ?_
                    refine g_aload_n (pc := 112) hX 0 d_PN_leastNumber_112 rfl rfl ?_
                    refine g_get (pc := 113) hX f_PN_29 0 rfl rfl d_PN_leastNumber_113 ?_
                    refine g_alenZ (pc := 116) hX 4 rfl d_PN_leastNumber_116 ?_
                    refine g_icmp_ge (pc := 117) (tgt := 137) hX d_PN_leastNumber_117 (by decide) (by (first | omega | (dsimp only [rN, rC, rF, rG, rH, rA, sN, sC, sI, sD, sO, sA, uN, uF, pA, pC, pX, pL, pR, pK, pM] at *; omega))) (by (first | omega | (dsimp only [rN, rC, rF, rG, rH, rA, sN, sC, sI, sD, sO, sA, uN, uF, pA, pC, pX, pL, pR, pK, pM] at *; omega))) (fun c_4 => ?_) (fun c_4 => ?_)
                    · exfalso; (first | omega | (dsimp only [rN, rC, rF, rG, rH, rA, sN, sC, sI, sD, sO, sA, uN, uF, pA, pC, pX, pL, pR, pK, pM] at *; omega))
                    · refine g_aload_n (pc := 120) hX 0 d_PN_leastNumber_120 rfl rfl ?_
                      refine g_get (pc := 121) hX f_PN_29 0 rfl rfl d_PN_leastNumber_121 ?_
                      refine g_iload_n (pc := 124) hX 3 d_PN_leastNumber_124 rfl rfl ?_
                      have hk1 := hki ((q : Int).toNat)
                      have hk2 := hinv q (by (first | omega | (dsimp only [rN, rC, rF, rG, rH, rA, sN, sC, sI, sD, sO, sA, uN, uF, pA, pC, pX, pL, pR, pK, pM] at *; omega)))
                      refine g_zald (pc := 125) hX 4 rfl (by (first | omega | (dsimp only [rN, rC, rF, rG, rH, rA, sN, sC, sI, sD, sO, sA, uN, uF, pA, pC, pX, pL, pR, pK, pM] at *; omega))) d_PN_leastNumber_125 ?_
                      refine g_if_ne (pc := 126) (tgt := 131) hX d_PN_leastNumber_126 (by decide) (show gin (K q) from hki q) (fun c_5 => ?_) (fun c_5 => ?_)
                      · refine g_iinc (pc := 131) hX d_PN_leastNumber_131 (by decide) rfl ?_
                        refine g_goto (pc := 134) (tgt := 103) hX d_PN_leastNumber_134 (by decide) ?_
                        refine g_lv [(0, .ref n), (1, .long (lI z)), (3, .int (iI ((q + 1 : Nat) : Int)))] ⟨rfl, rfl, rfl, trivial⟩ ?_
                        have c9 : K q ≠ 0 := c_5
                        exact ih (q + 1) (by (first | omega | (dsimp only [rN, rC, rF, rG, rH, rA, sN, sC, sI, sD, sO, sA, uN, uF, pA, pC, pX, pL, pR, pK, pM] at *; omega))) (by (first | omega | (dsimp only [rN, rC, rF, rG, rH, rA, sN, sC, sI, sD, sO, sA, uN, uF, pA, pC, pX, pL, pR, pK, pM] at *; omega))) (by (first | omega | (dsimp only [rN, rC, rF, rG, rH, rA, sN, sC, sI, sD, sO, sA, uN, uF, pA, pC, pX, pL, pR, pK, pM] at *; omega))) (fun m h1 h2 => by
                          by_cases e : m = q
                          · subst e
                            obtain ⟨-, a9, h91, h92⟩ := (hinv m (by (first | omega | (dsimp only [rN, rC, rF, rG, rH, rA, sN, sC, sI, sD, sO, sA, uN, uF, pA, pC, pX, pL, pR, pK, pM] at *; omega)))).2.mp (by have := (hinv m (by (first | omega | (dsimp only [rN, rC, rF, rG, rH, rA, sN, sC, sI, sD, sO, sA, uN, uF, pA, pC, pX, pL, pR, pK, pM] at *; omega)))).1; (first | omega | (dsimp only [rN, rC, rF, rG, rH, rA, sN, sC, sI, sD, sO, sA, uN, uF, pA, pC, pX, pL, pR, pK, pM] at *; omega)))
                            exact ⟨a9, by (first | omega | (dsimp only [rN, rC, rF, rG, rH, rA, sN, sC, sI, sD, sO, sA, uN, uF, pA, pC, pX, pL, pR, pK, pM] at *; omega)), h92⟩
                          · exact hq3 m h1 (by (first | omega | (dsimp only [rN, rC, rF, rG, rH, rA, sN, sC, sI, sD, sO, sA, uN, uF, pA, pC, pX, pL, pR, pK, pM] at *; omega))))
                      · refine g_iload_n (pc := 129) hX 3 d_PN_leastNumber_129 rfl rfl ?_
                        exact g_iret (pc := 130) hX hE d_PN_leastNumber_130 (by decide) (by decide) ⟨((pA nc, pC nc, pX nc, pL nc, pR nc, K, pM nc) : PnT), q, rfl, rfl, hok, ⟨rfl, rfl, rfl, rfl, rfl⟩, ⟨hq1, hq2, hq3, fun _ i9 hi9 e9 => absurd (hk2.2.mpr ⟨hq1, i9, by (first | omega | (dsimp only [rN, rC, rF, rG, rH, rA, sN, sC, sI, sD, sO, sA, uN, uF, pA, pC, pX, pL, pR, pK, pM] at *; omega)), e9⟩) (by have h8 : K q = 0 := Decidable.not_not.mp c_5; (first | omega | (dsimp only [rN, rC, rF, rG, rH, rA, sN, sC, sI, sD, sO, sA, uN, uF, pA, pC, pX, pL, pR, pK, pM] at *; omega)))⟩, rfl, rfl⟩
              refine g_lv [(0, .ref n), (1, .long (lI z)), (3, .int (iI ((1 : Nat) : Int)))] ⟨rfl, rfl, rfl, trivial⟩ ?_
              exact loop3 (pM nc + 2) 1 (by (first | omega | (dsimp only [rN, rC, rF, rG, rH, rA, sN, sC, sI, sD, sO, sA, uN, uF, pA, pC, pX, pL, pR, pK, pM] at *; omega))) (by (first | omega | (dsimp only [rN, rC, rF, rG, rH, rA, sN, sC, sI, sD, sO, sA, uN, uF, pA, pC, pX, pL, pR, pK, pM] at *; omega))) (by (first | omega | (dsimp only [rN, rC, rF, rG, rH, rA, sN, sC, sI, sD, sO, sA, uN, uF, pA, pC, pX, pL, pR, pK, pM] at *; omega))) (fun m h1 h2 => by (first | omega | (dsimp only [rN, rC, rF, rG, rH, rA, sN, sC, sI, sD, sO, sA, uN, uF, pA, pC, pX, pL, pR, pK, pM] at *; omega)))
              
            · refine g_iload_n (pc := 42) hX 3 d_PN_leastNumber_42 rfl rfl ?_
              refine g_aload_n (pc := 43) hX 0 d_PN_leastNumber_43 rfl rfl ?_
              refine g_get (pc := 44) hX f_PN_25 0 rfl rfl d_PN_leastNumber_44 ?_
              refine g_alenL (pc := 47) hX 3 rfl d_PN_leastNumber_47 ?_
              refine g_icmp_ge (pc := 48) (tgt := 101) hX d_PN_leastNumber_48 (by decide) (by (first | omega | (dsimp only [rN, rC, rF, rG, rH, rA, sN, sC, sI, sD, sO, sA, uN, uF, pA, pC, pX, pL, pR, pK, pM] at *; omega))) (by (first | omega | (dsimp only [rN, rC, rF, rG, rH, rA, sN, sC, sI, sD, sO, sA, uN, uF, pA, pC, pX, pL, pR, pK, pM] at *; omega))) (fun c_6 => ?_) (fun c_6 => ?_)
              · exfalso; (first | omega | (dsimp only [rN, rC, rF, rG, rH, rA, sN, sC, sI, sD, sO, sA, uN, uF, pA, pC, pX, pL, pR, pK, pM] at *; omega))
              · refine g_lload_n (pc := 51) hX 1 d_PN_leastNumber_51 rfl rfl ?_
                refine g_aload_n (pc := 52) hX 0 d_PN_leastNumber_52 rfl rfl ?_
                refine g_get (pc := 53) hX f_PN_25 0 rfl rfl d_PN_leastNumber_53 ?_
                refine g_iload_n (pc := 56) hX 3 d_PN_leastNumber_56 rfl rfl ?_
                have hpr := nz ((i : Int).toNat)
                have hr0 : 0 ≤ pR nc ((i : Int).toNat) := hR i (by (first | omega | (dsimp only [rN, rC, rF, rG, rH, rA, sN, sC, sI, sD, sO, sA, uN, uF, pA, pC, pX, pL, pR, pK, pM] at *; omega)))
                refine g_lald (pc := 57) hX 3 rfl (by (first | omega | (dsimp only [rN, rC, rF, rG, rH, rA, sN, sC, sI, sD, sO, sA, uN, uF, pA, pC, pX, pL, pR, pK, pM] at *; omega))) d_PN_leastNumber_57 ?_
                refine g_iS (pc := 58) hX (c_NM_numberBehind l E _ (by (first | omega | (dsimp only [rN, rC, rF, rG, rH, rA, sN, sC, sI, sD, sO, sA, uN, uF, pA, pC, pX, pL, pR, pK, pM] at *; omega))) _ (by (first | omega | (dsimp only [rN, rC, rF, rG, rH, rA, sN, sC, sI, sD, sO, sA, uN, uF, pA, pC, pX, pL, pR, pK, pM] at *; omega))) (by (first | omega | (dsimp only [rN, rC, rF, rG, rH, rA, sN, sC, sI, sD, sO, sA, uN, uF, pA, pC, pX, pL, pR, pK, pM] at *; omega)))) gy_NM_numberBehind w_413 w_412 rfl (by decide) (by decide) [] rfl (by decide +kernel) _ rfl (Nat.le_of_ble_eq_true rfl) d_PN_leastNumber_58 (by decide) (by decide) ?_
                obtain ⟨v, hv⟩ : ∃ v : Int, v = nbh z 7 (pR nc ((i : Int).toNat)) 0 1 := ⟨_, rfl⟩
                have hv7 := nbh7 z (pR nc ((i : Int).toNat))
                rw [← hv] at hv7 ⊢
                rw [show ((i : Int).toNat) = i by (first | omega | (dsimp only [rN, rC, rF, rG, rH, rA, sN, sC, sI, sD, sO, sA, uN, uF, pA, pC, pX, pL, pR, pK, pM] at *; omega))] at hv
                refine g_istore (pc := 61) hX d_PN_leastNumber_61 (by decide) ?_
                refine g_iload (pc := 63) hX d_PN_leastNumber_63 rfl ?_
                refine g_if_le (pc := 65) (tgt := 95) hX d_PN_leastNumber_65 (by decide) (by (first | omega | (dsimp only [rN, rC, rF, rG, rH, rA, sN, sC, sI, sD, sO, sA, uN, uF, pA, pC, pX, pL, pR, pK, pM] at *; omega))) (fun c_7 => ?_) (fun c_7 => ?_)
                · refine g_iinc (pc := 95) hX d_PN_leastNumber_95 (by decide) rfl ?_
                  refine g_goto (pc := 98) (tgt := 34) hX d_PN_leastNumber_98 (by decide) ?_
                  refine g_lv [(0, .ref n), (1, .long (lI z)), (3, .int (iI ((i + 1 : Nat) : Int)))] ⟨rfl, rfl, rfl, trivial⟩ ?_
                  exact ih (i + 1) K (by (first | omega | (dsimp only [rN, rC, rF, rG, rH, rA, sN, sC, sI, sD, sO, sA, uN, uF, pA, pC, pX, pL, pR, pK, pM] at *; omega))) (by (first | omega | (dsimp only [rN, rC, rF, rG, rH, rA, sN, sC, sI, sD, sO, sA, uN, uF, pA, pC, pX, pL, pR, pK, pM] at *; omega))) hki (tk_skip hinv hv (by (first | omega | (dsimp only [rN, rC, rF, rG, rH, rA, sN, sC, sI, sD, sO, sA, uN, uF, pA, pC, pX, pL, pR, pK, pM] at *; omega))))
                · refine g_iload (pc := 68) hX d_PN_leastNumber_68 rfl ?_
                  refine g_aload_n (pc := 70) hX 0 d_PN_leastNumber_70 rfl rfl ?_
                  refine g_get (pc := 71) hX f_PN_33 0 rfl rfl d_PN_leastNumber_71 ?_
                  refine g_icmp_ge (pc := 74) (tgt := 95) hX d_PN_leastNumber_74 (by decide) (by (first | omega | (dsimp only [rN, rC, rF, rG, rH, rA, sN, sC, sI, sD, sO, sA, uN, uF, pA, pC, pX, pL, pR, pK, pM] at *; omega))) (by (first | omega | (dsimp only [rN, rC, rF, rG, rH, rA, sN, sC, sI, sD, sO, sA, uN, uF, pA, pC, pX, pL, pR, pK, pM] at *; omega))) (fun c_8 => ?_) (fun c_8 => ?_)
                  · refine g_iinc (pc := 95) hX d_PN_leastNumber_95 (by decide) rfl ?_
                    refine g_goto (pc := 98) (tgt := 34) hX d_PN_leastNumber_98 (by decide) ?_
                    refine g_lv [(0, .ref n), (1, .long (lI z)), (3, .int (iI ((i + 1 : Nat) : Int)))] ⟨rfl, rfl, rfl, trivial⟩ ?_
                    exact ih (i + 1) K (by (first | omega | (dsimp only [rN, rC, rF, rG, rH, rA, sN, sC, sI, sD, sO, sA, uN, uF, pA, pC, pX, pL, pR, pK, pM] at *; omega))) (by (first | omega | (dsimp only [rN, rC, rF, rG, rH, rA, sN, sC, sI, sD, sO, sA, uN, uF, pA, pC, pX, pL, pR, pK, pM] at *; omega))) hki (tk_skip hinv hv (by (first | omega | (dsimp only [rN, rC, rF, rG, rH, rA, sN, sC, sI, sD, sO, sA, uN, uF, pA, pC, pX, pL, pR, pK, pM] at *; omega))))
                  · refine g_iload (pc := 77) hX d_PN_leastNumber_77 rfl ?_
                    refine g_aload_n (pc := 79) hX 0 d_PN_leastNumber_79 rfl rfl ?_
                    refine g_get (pc := 80) hX f_PN_29 0 rfl rfl d_PN_leastNumber_80 ?_
                    refine g_alenZ (pc := 83) hX 4 rfl d_PN_leastNumber_83 ?_
                    refine g_icmp_ge (pc := 84) (tgt := 95) hX d_PN_leastNumber_84 (by decide) (by (first | omega | (dsimp only [rN, rC, rF, rG, rH, rA, sN, sC, sI, sD, sO, sA, uN, uF, pA, pC, pX, pL, pR, pK, pM] at *; omega))) (by (first | omega | (dsimp only [rN, rC, rF, rG, rH, rA, sN, sC, sI, sD, sO, sA, uN, uF, pA, pC, pX, pL, pR, pK, pM] at *; omega))) (fun c_9 => ?_) (fun c_9 => ?_)
                    · exfalso; (first | omega | (dsimp only [rN, rC, rF, rG, rH, rA, sN, sC, sI, sD, sO, sA, uN, uF, pA, pC, pX, pL, pR, pK, pM] at *; omega))
                    · refine g_aload_n (pc := 87) hX 0 d_PN_leastNumber_87 rfl rfl ?_
                      refine g_get (pc := 88) hX f_PN_29 0 rfl rfl d_PN_leastNumber_88 ?_
                      refine g_iload (pc := 91) hX d_PN_leastNumber_91 rfl ?_
                      refine g_iconst (pc := 93) hX d_PN_leastNumber_93 ?_
                      refine g_zast (pc := 94) hX 4 rfl (by (first | omega | (dsimp only [rN, rC, rF, rG, rH, rA, sN, sC, sI, sD, sO, sA, uN, uF, pA, pC, pX, pL, pR, pK, pM] at *; omega))) (Or.inr rfl) d_PN_leastNumber_94 ?_
                      refine g_iinc (pc := 95) hX d_PN_leastNumber_95 (by decide) rfl ?_
                      refine g_goto (pc := 98) (tgt := 34) hX d_PN_leastNumber_98 (by decide) ?_
                      refine g_lv [(0, .ref n), (1, .long (lI z)), (3, .int (iI ((i + 1 : Nat) : Int)))] ⟨rfl, rfl, rfl, trivial⟩ ?_
                      exact ih (i + 1) (uZ K v.toNat 1) (by (first | omega | (dsimp only [rN, rC, rF, rG, rH, rA, sN, sC, sI, sD, sO, sA, uN, uF, pA, pC, pX, pL, pR, pK, pM] at *; omega))) (by (first | omega | (dsimp only [rN, rC, rF, rG, rH, rA, sN, sC, sI, sD, sO, sA, uN, uF, pA, pC, pX, pL, pR, pK, pM] at *; omega))) (uZ_gin hki (by decide)) (tk_step hinv hv (by (first | omega | (dsimp only [rN, rC, rF, rG, rH, rA, sN, sC, sI, sD, sO, sA, uN, uF, pA, pC, pX, pL, pR, pK, pM] at *; omega))))
        refine g_lv [(0, .ref n), (1, .long (lI z)), (3, .int (iI ((0 : Nat) : Int)))] ⟨rfl, rfl, rfl, trivial⟩ ?_
        exact loop2 (pM nc + 1) 0 K (by (first | omega | (dsimp only [rN, rC, rF, rG, rH, rA, sN, sC, sI, sD, sO, sA, uN, uF, pA, pC, pX, pL, pR, pK, pM] at *; omega))) (by (first | omega | (dsimp only [rN, rC, rF, rG, rH, rA, sN, sC, sI, sD, sO, sA, uN, uF, pA, pC, pX, pL, pR, pK, pM] at *; omega))) hki (fun j hj => ⟨Or.inl (hz0 j hj), by rw [hz0 j hj]; exact ⟨fun q => absurd q (by decide), fun ⟨_, a, q, _⟩ => absurd q (by (first | omega | (dsimp only [rN, rC, rF, rG, rH, rA, sN, sC, sI, sD, sO, sA, uN, uF, pA, pC, pX, pL, pR, pK, pM] at *; omega)))⟩⟩)
        
      · refine g_iload_n (pc := 10) hX 3 d_PN_leastNumber_10 rfl rfl ?_
        refine g_aload_n (pc := 11) hX 0 d_PN_leastNumber_11 rfl rfl ?_
        refine g_get (pc := 12) hX f_PN_29 0 rfl rfl d_PN_leastNumber_12 ?_
        refine g_alenZ (pc := 15) hX 4 rfl d_PN_leastNumber_15 ?_
        refine g_icmp_ge (pc := 16) (tgt := 32) hX d_PN_leastNumber_16 (by decide) (by (first | omega | (dsimp only [rN, rC, rF, rG, rH, rA, sN, sC, sI, sD, sO, sA, uN, uF, pA, pC, pX, pL, pR, pK, pM] at *; omega))) (by (first | omega | (dsimp only [rN, rC, rF, rG, rH, rA, sN, sC, sI, sD, sO, sA, uN, uF, pA, pC, pX, pL, pR, pK, pM] at *; omega))) (fun c_10 => ?_) (fun c_10 => ?_)
        · exfalso; (first | omega | (dsimp only [rN, rC, rF, rG, rH, rA, sN, sC, sI, sD, sO, sA, uN, uF, pA, pC, pX, pL, pR, pK, pM] at *; omega))
        · refine g_aload_n (pc := 19) hX 0 d_PN_leastNumber_19 rfl rfl ?_
          refine g_get (pc := 20) hX f_PN_29 0 rfl rfl d_PN_leastNumber_20 ?_
          refine g_iload_n (pc := 23) hX 3 d_PN_leastNumber_23 rfl rfl ?_
          refine g_iconst (pc := 24) hX d_PN_leastNumber_24 ?_
          refine g_zast (pc := 25) hX 4 rfl (by (first | omega | (dsimp only [rN, rC, rF, rG, rH, rA, sN, sC, sI, sD, sO, sA, uN, uF, pA, pC, pX, pL, pR, pK, pM] at *; omega))) (Or.inl rfl) d_PN_leastNumber_25 ?_
          refine g_iinc (pc := 26) hX d_PN_leastNumber_26 (by decide) rfl ?_
          refine g_goto (pc := 29) (tgt := 2) hX d_PN_leastNumber_29 (by decide) ?_
          refine g_lv [(0, .ref n), (1, .long (lI z)), (3, .int (iI ((i + 1 : Nat) : Int)))] ⟨rfl, rfl, rfl, trivial⟩ ?_
          exact ih (i + 1) (uZ K i 0) (by (first | omega | (dsimp only [rN, rC, rF, rG, rH, rA, sN, sC, sI, sD, sO, sA, uN, uF, pA, pC, pX, pL, pR, pK, pM] at *; omega))) (by (first | omega | (dsimp only [rN, rC, rF, rG, rH, rA, sN, sC, sI, sD, sO, sA, uN, uF, pA, pC, pX, pL, pR, pK, pM] at *; omega))) (uZ_gin hki gin0) (fun j hj => by
            by_cases e : j = i
            · subst e; exact uZ_s
            · rw [uZ_n e]; exact hz1 j (by (first | omega | (dsimp only [rN, rC, rF, rG, rH, rA, sN, sC, sI, sD, sO, sA, uN, uF, pA, pC, pX, pL, pR, pK, pM] at *; omega))))
  refine g_lv [(0, .ref n), (1, .long (lI z)), (3, .int (iI ((0 : Nat) : Int)))] ⟨rfl, rfl, rfl, trivial⟩ ?_
  exact loop1 (pM nc + 1) 0 (pK nc) (by (first | omega | (dsimp only [rN, rC, rF, rG, rH, rA, sN, sC, sI, sD, sO, sA, uN, uF, pA, pC, pX, pL, pR, pK, pM] at *; omega))) (by (first | omega | (dsimp only [rN, rC, rF, rG, rH, rA, sN, sC, sI, sD, sO, sA, uN, uF, pA, pC, pX, pL, pR, pK, pM] at *; omega))) nu (fun j hj => by (first | omega | (dsimp only [rN, rC, rF, rG, rH, rA, sN, sC, sI, sD, sO, sA, uN, uF, pA, pC, pX, pL, pR, pK, pM] at *; omega)))
  
