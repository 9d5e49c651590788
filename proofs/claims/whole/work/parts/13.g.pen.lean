abbrev rm_PN_leastNumber : Room := { frames := 2, cells := 0, slots := 0, locals := 51 }
set_option maxHeartbeats 4000000 in
set_option maxRecDepth 100000 in
theorem c_PN_leastNumber (l : Launch) (E : gE) (n g s : Nat) (nc : PnT) (nk : pnOK nc) (z : Int) (hz : gil z) (hR : ∀ i, i < pM nc → 0 ≤ pR nc i) : Ct l E y_PN_leastNumber b_PN_leastNumber 5 (some .int) rm_PN_leastNumber [.ref n, .long (lI z)] (pnW E n g s nc) (fun vv ww dc ds => ∃ π, ∃ r : Nat, vv = some (.int (iI r)) ∧ ww = pnW E n g s π ∧ pnOK π ∧ ((pC π = pC nc ∧ pX π = pX nc ∧ pL π = pL nc ∧ pR π = pR nc ∧ pM π = pM nc) ∧ leastN z (pM nc) (pR nc) r ∧ dc = 0 ∧ ds = 0)) := by
  obtain ⟨⟨n1, n2, n3⟩, nx, ny, nz, nu⟩ := id nk
  refine g_start (by decide) (Nat.le_of_ble_eq_true rfl) (fun X hX hE hin => ?_)
  refine g_iconst (pc := 0) hX d_PN_leastNumber_0 ?_
  refine g_istore_n (pc := 1) hX 3 d_PN_leastNumber_1 rfl (by decide) ?_
  have loop1 : ∀ (d : Nat) (i : Nat) (K : Nat → Int), pM nc < i + d → i ≤ pM nc → (∀ j, gin (K j)) → (∀ j, j < i → K j = 0) → gW X (pnW E n g s ((pA nc, pC nc, pX nc, pL nc, pR nc, K, pM nc) : PnT)) 0 0 2 [(0, .ref n), (1, .long (lI z)), (3, .int (iI (i : Int)))] [] := by
    intro d
    induction d with
    | zero => intro i K hfu hi hki hz1; (first | omega | (dsimp only [rN, rC, rF, rG, rH, rA, sN, sC, sI, sD, sO, sA, uN, uF, pA, pC, pX, pL, pR, pK, pM] at *; omega))
    | succ d ih =>
      intro i K hfu hi hki hz1
      have hok : pnOK ((pA nc, pC nc, pX nc, pL nc, pR nc, K, pM nc) : PnT) := nk.u n3 nx ny nz hki
      refine g_iload_n (pc := 2) hX 3 d_PN_leastNumber_2 rfl rfl ?_
      refine g_aload_n (pc := 3) hX 0 d_PN_leastNumber_3 rfl rfl ?_
      refine g_get (pc := 4) hX f_PN_28 0 rfl rfl d_PN_leastNumber_4 ?_
      refine g_icmp_ge (pc := 7) (tgt := 32) hX d_PN_leastNumber_7 (by decide) (by (first | omega | (dsimp only [rN, rC, rF, rG, rH, rA, sN, sC, sI, sD, sO, sA, uN, uF, pA, pC, pX, pL, pR, pK, pM] at *; omega))) (by (first | omega | (dsimp only [rN, rC, rF, rG, rH, rA, sN, sC, sI, sD, sO, sA, uN, uF, pA, pC, pX, pL, pR, pK, pM] at *; omega))) (fun c_1 => ?_) (fun c_1 => ?_)
      · have hz0 : ∀ j, j < pM nc → K j = 0 := fun j hj => hz1 j (by (first | omega | (dsimp only [rN, rC, rF, rG, rH, rA, sN, sC, sI, sD, sO, sA, uN, uF, pA, pC, pX, pL, pR, pK, pM] at *; omega)))
        refine g_iconst (pc := 32) hX d_PN_leastNumber_32 ?_
        refine g_istore_n (pc := 33) hX 3 d_PN_leastNumber_33 rfl (by decide) ?_
        have loop2 : ∀ (d : Nat) (i : Nat) (K : Nat → Int), pM nc < i + d → i ≤ pM nc → (∀ j, gin (K j)) → (∀ j, j < pM nc → (K j = 0 ∨ K j = 1) ∧ (K j = 1 ↔ ∃ a, a < i ∧ nbh z 7 (pR nc a) 0 1 = j)) → gW X (pnW E n g s ((pA nc, pC nc, pX nc, pL nc, pR nc, K, pM nc) : PnT)) 0 0 34 [(0, .ref n), (1, .long (lI z)), (3, .int (iI (i : Int)))] [] := by
          intro d
          induction d with
          | zero => intro i K hfu2 hi2 hki hinv; (first | omega | (dsimp only [rN, rC, rF, rG, rH, rA, sN, sC, sI, sD, sO, sA, uN, uF, pA, pC, pX, pL, pR, pK, pM] at *; omega))
          | succ d ih =>
            intro i K hfu2 hi2 hki hinv
            have hok : pnOK ((pA nc, pC nc, pX nc, pL nc, pR nc, K, pM nc) : PnT) := nk.u n3 nx ny nz hki
            refine g_iload_n (pc := 34) hX 3 d_PN_leastNumber_34 rfl rfl ?_
            refine g_aload_n (pc := 35) hX 0 d_PN_leastNumber_35 rfl rfl ?_
            refine g_get (pc := 36) hX f_PN_28 0 rfl rfl d_PN_leastNumber_36 ?_
            refine g_icmp_ge (pc := 39) (tgt := 96) hX d_PN_leastNumber_39 (by decide) (by (first | omega | (dsimp only [rN, rC, rF, rG, rH, rA, sN, sC, sI, sD, sO, sA, uN, uF, pA, pC, pX, pL, pR, pK, pM] at *; omega))) (by (first | omega | (dsimp only [rN, rC, rF, rG, rH, rA, sN, sC, sI, sD, sO, sA, uN, uF, pA, pC, pX, pL, pR, pK, pM] at *; omega))) (fun c_2 => ?_) (fun c_2 => ?_)
            · refine g_iconst (pc := 96) hX d_PN_leastNumber_96 ?_
              refine g_istore_n (pc := 97) hX 3 d_PN_leastNumber_97 rfl (by decide) ?_
              have loop3 : ∀ (d : Nat) (q : Nat), pM nc + 1 < q + d → 1 ≤ q → (q ≤ pM nc ∨ q = 1) → (∀ m : Nat, 1 ≤ m → m < q → ∃ i, i < pM nc ∧ nbh z 7 (pR nc i) 0 1 = m) → gW X (pnW E n g s ((pA nc, pC nc, pX nc, pL nc, pR nc, K, pM nc) : PnT)) 0 0 98 [(0, .ref n), (1, .long (lI z)), (3, .int (iI (q : Int)))] [] := by
                intro d
                induction d with
                | zero => intro q hfu3 hq1 hq2 hq3; (first | omega | (dsimp only [rN, rC, rF, rG, rH, rA, sN, sC, sI, sD, sO, sA, uN, uF, pA, pC, pX, pL, pR, pK, pM] at *; omega))
                | succ d ih =>
                  intro q hfu3 hq1 hq2 hq3
                  refine g_iload_n (pc := 98) hX 3 d_PN_leastNumber_98 rfl rfl ?_
                  refine g_aload_n (pc := 99) hX 0 d_PN_leastNumber_99 rfl rfl ?_
                  refine g_get (pc := 100) hX f_PN_28 0 rfl rfl d_PN_leastNumber_100 ?_
                  refine g_icmp_ge (pc := 103) (tgt := 132) hX d_PN_leastNumber_103 (by decide) (by (first | omega | (dsimp only [rN, rC, rF, rG, rH, rA, sN, sC, sI, sD, sO, sA, uN, uF, pA, pC, pX, pL, pR, pK, pM] at *; omega))) (by (first | omega | (dsimp only [rN, rC, rF, rG, rH, rA, sN, sC, sI, sD, sO, sA, uN, uF, pA, pC, pX, pL, pR, pK, pM] at *; omega))) (fun c_3 => ?_) (fun c_3 => ?_)
                  · refine g_iconst (pc := 132) hX d_PN_leastNumber_132 ?_
                    refine g_aload_n (pc := 133) hX 0 d_PN_leastNumber_133 rfl rfl ?_
                    refine g_get (pc := 134) hX f_PN_28 0 rfl rfl d_PN_leastNumber_134 ?_
                    refine g_mmax (pc := 137) hX w_417 w_173 w_8 w_174 (by decide) (by decide) (Nat.le_of_ble_eq_true rfl) (by decide) (by decide) (by (first | omega | (dsimp only [rN, rC, rF, rG, rH, rA, sN, sC, sI, sD, sO, sA, uN, uF, pA, pC, pX, pL, pR, pK, pM] at *; omega))) (by (first | omega | (dsimp only [rN, rC, rF, rG, rH, rA, sN, sC, sI, sD, sO, sA, uN, uF, pA, pC, pX, pL, pR, pK, pM] at *; omega))) d_PN_leastNumber_137 ?_
                    exact g_iret (pc := 140) hX hE d_PN_leastNumber_140 (by decide) (by decide) ⟨((pA nc, pC nc, pX nc, pL nc, pR nc, K, pM nc) : PnT), (max 1 (pM nc)), by congr 3; split <;> (first | omega | (dsimp only [rN, rC, rF, rG, rH, rA, sN, sC, sI, sD, sO, sA, uN, uF, pA, pC, pX, pL, pR, pK, pM] at *; omega)), rfl, hok, ⟨rfl, rfl, rfl, rfl, rfl⟩, ⟨by (first | omega | (dsimp only [rN, rC, rF, rG, rH, rA, sN, sC, sI, sD, sO, sA, uN, uF, pA, pC, pX, pL, pR, pK, pM] at *; omega)), by (first | omega | (dsimp only [rN, rC, rF, rG, rH, rA, sN, sC, sI, sD, sO, sA, uN, uF, pA, pC, pX, pL, pR, pK, pM] at *; omega)), fun m h1 h2 => hq3 m h1 (by (first | omega | (dsimp only [rN, rC, rF, rG, rH, rA, sN, sC, sI, sD, sO, sA, uN, uF, pA, pC, pX, pL, pR, pK, pM] at *; omega))), fun h9 => by (first | omega | (dsimp only [rN, rC, rF, rG, rH, rA, sN, sC, sI, sD, sO, sA, uN, uF, pA, pC, pX, pL, pR, pK, pM] at *; omega))⟩, rfl, rfl⟩
                  · refine g_iload_n (pc := 106) hX 3 d_PN_leastNumber_106 rfl rfl ?_
                    refine g_aload_n (pc := 107) hX 0 d_PN_leastNumber_107 rfl rfl ?_
                    refine g_get (pc := 108) hX f_PN_24 0 rfl rfl d_PN_leastNumber_108 ?_
                    refine g_alenZ (pc := 111) hX 4 rfl d_PN_leastNumber_111 ?_
                    refine g_icmp_ge (pc := 112) (tgt := 132) hX d_PN_leastNumber_112 (by decide) (by (first | omega | (dsimp only [rN, rC, rF, rG, rH, rA, sN, sC, sI, sD, sO, sA, uN, uF, pA, pC, pX, pL, pR, pK, pM] at *; omega))) (by (first | omega | (dsimp only [rN, rC, rF, rG, rH, rA, sN, sC, sI, sD, sO, sA, uN, uF, pA, pC, pX, pL, pR, pK, pM] at *; omega))) (fun c_4 => ?_) (fun c_4 => ?_)
                    · exfalso; (first | omega | (dsimp only [rN, rC, rF, rG, rH, rA, sN, sC, sI, sD, sO, sA, uN, uF, pA, pC, pX, pL, pR, pK, pM] at *; omega))
                    · refine g_aload_n (pc := 115) hX 0 d_PN_leastNumber_115 rfl rfl ?_
                      refine g_get (pc := 116) hX f_PN_24 0 rfl rfl d_PN_leastNumber_116 ?_
                      refine g_iload_n (pc := 119) hX 3 d_PN_leastNumber_119 rfl rfl ?_
                      have hk1 := hki ((q : Int).toNat)
                      have hk2 := hinv q (by (first | omega | (dsimp only [rN, rC, rF, rG, rH, rA, sN, sC, sI, sD, sO, sA, uN, uF, pA, pC, pX, pL, pR, pK, pM] at *; omega)))
                      refine g_zald (pc := 120) hX 4 rfl (by (first | omega | (dsimp only [rN, rC, rF, rG, rH, rA, sN, sC, sI, sD, sO, sA, uN, uF, pA, pC, pX, pL, pR, pK, pM] at *; omega))) d_PN_leastNumber_120 ?_
                      refine g_if_ne (pc := 121) (tgt := 126) hX d_PN_leastNumber_121 (by decide) (show gin (K q) from hki q) (fun c_5 => ?_) (fun c_5 => ?_)
                      · refine g_iinc (pc := 126) hX d_PN_leastNumber_126 (by decide) rfl ?_
                        refine g_goto (pc := 129) (tgt := 98) hX d_PN_leastNumber_129 (by decide) ?_
                        refine g_lv [(0, .ref n), (1, .long (lI z)), (3, .int (iI ((q + 1 : Nat) : Int)))] ⟨rfl, rfl, rfl, trivial⟩ ?_
                        have c9 : K q ≠ 0 := c_5
                        exact ih (q + 1) (by (first | omega | (dsimp only [rN, rC, rF, rG, rH, rA, sN, sC, sI, sD, sO, sA, uN, uF, pA, pC, pX, pL, pR, pK, pM] at *; omega))) (by (first | omega | (dsimp only [rN, rC, rF, rG, rH, rA, sN, sC, sI, sD, sO, sA, uN, uF, pA, pC, pX, pL, pR, pK, pM] at *; omega))) (by (first | omega | (dsimp only [rN, rC, rF, rG, rH, rA, sN, sC, sI, sD, sO, sA, uN, uF, pA, pC, pX, pL, pR, pK, pM] at *; omega))) (fun m h1 h2 => by
                          by_cases e : m = q
                          · subst e
                            obtain ⟨a9, h91, h92⟩ := (hinv m (by (first | omega | (dsimp only [rN, rC, rF, rG, rH, rA, sN, sC, sI, sD, sO, sA, uN, uF, pA, pC, pX, pL, pR, pK, pM] at *; omega)))).2.mp (by have := (hinv m (by (first | omega | (dsimp only [rN, rC, rF, rG, rH, rA, sN, sC, sI, sD, sO, sA, uN, uF, pA, pC, pX, pL, pR, pK, pM] at *; omega)))).1; (first | omega | (dsimp only [rN, rC, rF, rG, rH, rA, sN, sC, sI, sD, sO, sA, uN, uF, pA, pC, pX, pL, pR, pK, pM] at *; omega)))
                            exact ⟨a9, by (first | omega | (dsimp only [rN, rC, rF, rG, rH, rA, sN, sC, sI, sD, sO, sA, uN, uF, pA, pC, pX, pL, pR, pK, pM] at *; omega)), h92⟩
                          · exact hq3 m h1 (by (first | omega | (dsimp only [rN, rC, rF, rG, rH, rA, sN, sC, sI, sD, sO, sA, uN, uF, pA, pC, pX, pL, pR, pK, pM] at *; omega))))
                      · refine g_iload_n (pc := 124) hX 3 d_PN_leastNumber_124 rfl rfl ?_
                        exact g_iret (pc := 125) hX hE d_PN_leastNumber_125 (by decide) (by decide) ⟨((pA nc, pC nc, pX nc, pL nc, pR nc, K, pM nc) : PnT), q, rfl, rfl, hok, ⟨rfl, rfl, rfl, rfl, rfl⟩, ⟨hq1, hq2, hq3, fun _ i9 hi9 e9 => absurd (hk2.2.mpr ⟨i9, by (first | omega | (dsimp only [rN, rC, rF, rG, rH, rA, sN, sC, sI, sD, sO, sA, uN, uF, pA, pC, pX, pL, pR, pK, pM] at *; omega)), e9⟩) (by have h8 : K q = 0 := Decidable.not_not.mp c_5; (first | omega | (dsimp only [rN, rC, rF, rG, rH, rA, sN, sC, sI, sD, sO, sA, uN, uF, pA, pC, pX, pL, pR, pK, pM] at *; omega)))⟩, rfl, rfl⟩
              refine g_lv [(0, .ref n), (1, .long (lI z)), (3, .int (iI ((1 : Nat) : Int)))] ⟨rfl, rfl, rfl, trivial⟩ ?_
              exact loop3 (pM nc + 2) 1 (by (first | omega | (dsimp only [rN, rC, rF, rG, rH, rA, sN, sC, sI, sD, sO, sA, uN, uF, pA, pC, pX, pL, pR, pK, pM] at *; omega))) (by (first | omega | (dsimp only [rN, rC, rF, rG, rH, rA, sN, sC, sI, sD, sO, sA, uN, uF, pA, pC, pX, pL, pR, pK, pM] at *; omega))) (by (first | omega | (dsimp only [rN, rC, rF, rG, rH, rA, sN, sC, sI, sD, sO, sA, uN, uF, pA, pC, pX, pL, pR, pK, pM] at *; omega))) (fun m h1 h2 => by (first | omega | (dsimp only [rN, rC, rF, rG, rH, rA, sN, sC, sI, sD, sO, sA, uN, uF, pA, pC, pX, pL, pR, pK, pM] at *; omega)))
              
            · refine g_iload_n (pc := 42) hX 3 d_PN_leastNumber_42 rfl rfl ?_
              refine g_aload_n (pc := 43) hX 0 d_PN_leastNumber_43 rfl rfl ?_
              refine g_get (pc := 44) hX f_PN_20 0 rfl rfl d_PN_leastNumber_44 ?_
              refine g_alenL (pc := 47) hX 3 rfl d_PN_leastNumber_47 ?_
              refine g_icmp_ge (pc := 48) (tgt := 96) hX d_PN_leastNumber_48 (by decide) (by (first | omega | (dsimp only [rN, rC, rF, rG, rH, rA, sN, sC, sI, sD, sO, sA, uN, uF, pA, pC, pX, pL, pR, pK, pM] at *; omega))) (by (first | omega | (dsimp only [rN, rC, rF, rG, rH, rA, sN, sC, sI, sD, sO, sA, uN, uF, pA, pC, pX, pL, pR, pK, pM] at *; omega))) (fun c_6 => ?_) (fun c_6 => ?_)
              · exfalso; (first | omega | (dsimp only [rN, rC, rF, rG, rH, rA, sN, sC, sI, sD, sO, sA, uN, uF, pA, pC, pX, pL, pR, pK, pM] at *; omega))
              · refine g_lload_n (pc := 51) hX 1 d_PN_leastNumber_51 rfl rfl ?_
                refine g_aload_n (pc := 52) hX 0 d_PN_leastNumber_52 rfl rfl ?_
                refine g_get (pc := 53) hX f_PN_20 0 rfl rfl d_PN_leastNumber_53 ?_
                refine g_iload_n (pc := 56) hX 3 d_PN_leastNumber_56 rfl rfl ?_
                have hpr := nz ((i : Int).toNat)
                have hr0 : 0 ≤ pR nc ((i : Int).toNat) := hR i (by (first | omega | (dsimp only [rN, rC, rF, rG, rH, rA, sN, sC, sI, sD, sO, sA, uN, uF, pA, pC, pX, pL, pR, pK, pM] at *; omega)))
                refine g_lald (pc := 57) hX 3 rfl (by (first | omega | (dsimp only [rN, rC, rF, rG, rH, rA, sN, sC, sI, sD, sO, sA, uN, uF, pA, pC, pX, pL, pR, pK, pM] at *; omega))) d_PN_leastNumber_57 ?_
                refine g_iS (pc := 58) hX (c_NM_numberBehind l E _ (by (first | omega | (dsimp only [rN, rC, rF, rG, rH, rA, sN, sC, sI, sD, sO, sA, uN, uF, pA, pC, pX, pL, pR, pK, pM] at *; omega))) _ (by (first | omega | (dsimp only [rN, rC, rF, rG, rH, rA, sN, sC, sI, sD, sO, sA, uN, uF, pA, pC, pX, pL, pR, pK, pM] at *; omega))) (by (first | omega | (dsimp only [rN, rC, rF, rG, rH, rA, sN, sC, sI, sD, sO, sA, uN, uF, pA, pC, pX, pL, pR, pK, pM] at *; omega)))) gy_NM_numberBehind w_415 w_414 rfl (by decide) (by decide) [] rfl (by decide +kernel) _ rfl (Nat.le_of_ble_eq_true rfl) d_PN_leastNumber_58 (by decide) (by decide) ?_
                obtain ⟨v, hv⟩ : ∃ v : Int, v = nbh z 7 (pR nc ((i : Int).toNat)) 0 1 := ⟨_, rfl⟩
                have hv7 := nbh7 z (pR nc ((i : Int).toNat))
                rw [← hv] at hv7 ⊢
                rw [show ((i : Int).toNat) = i by (first | omega | (dsimp only [rN, rC, rF, rG, rH, rA, sN, sC, sI, sD, sO, sA, uN, uF, pA, pC, pX, pL, pR, pK, pM] at *; omega))] at hv
                refine g_istore (pc := 61) hX d_PN_leastNumber_61 (by decide) ?_
                refine g_iload (pc := 63) hX d_PN_leastNumber_63 rfl ?_
                refine g_aload_n (pc := 65) hX 0 d_PN_leastNumber_65 rfl rfl ?_
                refine g_get (pc := 66) hX f_PN_28 0 rfl rfl d_PN_leastNumber_66 ?_
                refine g_icmp_ge (pc := 69) (tgt := 90) hX d_PN_leastNumber_69 (by decide) (by (first | omega | (dsimp only [rN, rC, rF, rG, rH, rA, sN, sC, sI, sD, sO, sA, uN, uF, pA, pC, pX, pL, pR, pK, pM] at *; omega))) (by (first | omega | (dsimp only [rN, rC, rF, rG, rH, rA, sN, sC, sI, sD, sO, sA, uN, uF, pA, pC, pX, pL, pR, pK, pM] at *; omega))) (fun c_7 => ?_) (fun c_7 => ?_)
                · refine g_iinc (pc := 90) hX d_PN_leastNumber_90 (by decide) rfl ?_
                  refine g_goto (pc := 93) (tgt := 34) hX d_PN_leastNumber_93 (by decide) ?_
                  refine g_lv [(0, .ref n), (1, .long (lI z)), (3, .int (iI ((i + 1 : Nat) : Int)))] ⟨rfl, rfl, rfl, trivial⟩ ?_
                  exact ih (i + 1) K (by (first | omega | (dsimp only [rN, rC, rF, rG, rH, rA, sN, sC, sI, sD, sO, sA, uN, uF, pA, pC, pX, pL, pR, pK, pM] at *; omega))) (by (first | omega | (dsimp only [rN, rC, rF, rG, rH, rA, sN, sC, sI, sD, sO, sA, uN, uF, pA, pC, pX, pL, pR, pK, pM] at *; omega))) hki (tk_skip hinv hv (by (first | omega | (dsimp only [rN, rC, rF, rG, rH, rA, sN, sC, sI, sD, sO, sA, uN, uF, pA, pC, pX, pL, pR, pK, pM] at *; omega))))
                · refine g_iload (pc := 72) hX d_PN_leastNumber_72 rfl ?_
                  refine g_aload_n (pc := 74) hX 0 d_PN_leastNumber_74 rfl rfl ?_
                  refine g_get (pc := 75) hX f_PN_24 0 rfl rfl d_PN_leastNumber_75 ?_
                  refine g_alenZ (pc := 78) hX 4 rfl d_PN_leastNumber_78 ?_
                  refine g_icmp_ge (pc := 79) (tgt := 90) hX d_PN_leastNumber_79 (by decide) (by (first | omega | (dsimp only [rN, rC, rF, rG, rH, rA, sN, sC, sI, sD, sO, sA, uN, uF, pA, pC, pX, pL, pR, pK, pM] at *; omega))) (by (first | omega | (dsimp only [rN, rC, rF, rG, rH, rA, sN, sC, sI, sD, sO, sA, uN, uF, pA, pC, pX, pL, pR, pK, pM] at *; omega))) (fun c_8 => ?_) (fun c_8 => ?_)
                  · exfalso; (first | omega | (dsimp only [rN, rC, rF, rG, rH, rA, sN, sC, sI, sD, sO, sA, uN, uF, pA, pC, pX, pL, pR, pK, pM] at *; omega))
                  · refine g_aload_n (pc := 82) hX 0 d_PN_leastNumber_82 rfl rfl ?_
                    refine g_get (pc := 83) hX f_PN_24 0 rfl rfl d_PN_leastNumber_83 ?_
                    refine g_iload (pc := 86) hX d_PN_leastNumber_86 rfl ?_
                    refine g_iconst (pc := 88) hX d_PN_leastNumber_88 ?_
                    refine g_zast (pc := 89) hX 4 rfl (by (first | omega | (dsimp only [rN, rC, rF, rG, rH, rA, sN, sC, sI, sD, sO, sA, uN, uF, pA, pC, pX, pL, pR, pK, pM] at *; omega))) (Or.inr rfl) d_PN_leastNumber_89 ?_
                    refine g_iinc (pc := 90) hX d_PN_leastNumber_90 (by decide) rfl ?_
                    refine g_goto (pc := 93) (tgt := 34) hX d_PN_leastNumber_93 (by decide) ?_
                    refine g_lv [(0, .ref n), (1, .long (lI z)), (3, .int (iI ((i + 1 : Nat) : Int)))] ⟨rfl, rfl, rfl, trivial⟩ ?_
                    exact ih (i + 1) (uZ K v.toNat 1) (by (first | omega | (dsimp only [rN, rC, rF, rG, rH, rA, sN, sC, sI, sD, sO, sA, uN, uF, pA, pC, pX, pL, pR, pK, pM] at *; omega))) (by (first | omega | (dsimp only [rN, rC, rF, rG, rH, rA, sN, sC, sI, sD, sO, sA, uN, uF, pA, pC, pX, pL, pR, pK, pM] at *; omega))) (uZ_gin hki (by decide)) (tk_step hinv hv (by (first | omega | (dsimp only [rN, rC, rF, rG, rH, rA, sN, sC, sI, sD, sO, sA, uN, uF, pA, pC, pX, pL, pR, pK, pM] at *; omega))))
        refine g_lv [(0, .ref n), (1, .long (lI z)), (3, .int (iI ((0 : Nat) : Int)))] ⟨rfl, rfl, rfl, trivial⟩ ?_
        exact loop2 (pM nc + 1) 0 K (by (first | omega | (dsimp only [rN, rC, rF, rG, rH, rA, sN, sC, sI, sD, sO, sA, uN, uF, pA, pC, pX, pL, pR, pK, pM] at *; omega))) (by (first | omega | (dsimp only [rN, rC, rF, rG, rH, rA, sN, sC, sI, sD, sO, sA, uN, uF, pA, pC, pX, pL, pR, pK, pM] at *; omega))) hki (fun j hj => ⟨Or.inl (hz0 j hj), by rw [hz0 j hj]; exact ⟨fun q => absurd q (by decide), fun ⟨a, q, _⟩ => absurd q (by (first | omega | (dsimp only [rN, rC, rF, rG, rH, rA, sN, sC, sI, sD, sO, sA, uN, uF, pA, pC, pX, pL, pR, pK, pM] at *; omega)))⟩⟩)
        
      · refine g_iload_n (pc := 10) hX 3 d_PN_leastNumber_10 rfl rfl ?_
        refine g_aload_n (pc := 11) hX 0 d_PN_leastNumber_11 rfl rfl ?_
        refine g_get (pc := 12) hX f_PN_24 0 rfl rfl d_PN_leastNumber_12 ?_
        refine g_alenZ (pc := 15) hX 4 rfl d_PN_leastNumber_15 ?_
        refine g_icmp_ge (pc := 16) (tgt := 32) hX d_PN_leastNumber_16 (by decide) (by (first | omega | (dsimp only [rN, rC, rF, rG, rH, rA, sN, sC, sI, sD, sO, sA, uN, uF, pA, pC, pX, pL, pR, pK, pM] at *; omega))) (by (first | omega | (dsimp only [rN, rC, rF, rG, rH, rA, sN, sC, sI, sD, sO, sA, uN, uF, pA, pC, pX, pL, pR, pK, pM] at *; omega))) (fun c_9 => ?_) (fun c_9 => ?_)
        · exfalso; (first | omega | (dsimp only [rN, rC, rF, rG, rH, rA, sN, sC, sI, sD, sO, sA, uN, uF, pA, pC, pX, pL, pR, pK, pM] at *; omega))
        · refine g_aload_n (pc := 19) hX 0 d_PN_leastNumber_19 rfl rfl ?_
          refine g_get (pc := 20) hX f_PN_24 0 rfl rfl d_PN_leastNumber_20 ?_
          refine g_iload_n (pc := 23) hX 3 d_PN_leastNumber_23 rfl rfl ?_
          refine g_iconst (pc := 24) hX d_PN_leastNumber_24 ?_
          refine g_zast (pc := 25) hX 4 rfl (by (first | omega | (dsimp only [rN, rC, rF, rG, rH, rA, sN, sC, sI, sD, sO, sA, uN, uF, pA, pC, pX, pL, pR, pK, pM] at *; omega))) (Or.inl rfl) d_PN_leastNumber_25 ?_
          refine g_iinc (pc := 26) hX d_PN_leastNumber_26 (by decide) rfl ?_
          refine g_goto (pc := 29) (tgt := 2) hX d_PN_leastNumber_29 (by decide) ?_
          refine g_lv [(0, .ref n), (1, .long (lI z)), (3, .int (iI ((i + 1 : Nat) : Int)))] ⟨rfl, rfl, rfl, trivial⟩ ?_
          exact ih (i + 1) (uZ K i 0) (by (first | omega | (dsimp only [rN, rC, rF, rG, rH, rA, sN, sC, sI, sD, sO, sA, uN, uF, pA, pC, pX, pL, pR, pK, pM] at *; omega))) (by (first | omega | (dsimp only [rN, rC, rF, rG, rH, rA, sN, sC, sI, sD, sO, sA, uN, uF, pA, pC, pX, pL, pR, pK, pM] at *; omega))) (uZ_gin hki gin0) (fun j hj => by
            by_cases e : j = i
            · subst e; exact uZ_s
            · rw [uZ_n e]; exact hz1 j (by (first | omega | (dsimp only [rN, rC, rF, rG, rH, rA, sN, sC, sI, sD, sO, sA, uN, uF, pA, pC, pX, pL, pR, pK, pM] at *; omega))))
  refine g_lv [(0, .ref n), (1, .long (lI z)), (3, .int (iI ((0 : Nat) : Int)))] ⟨rfl, rfl, rfl, trivial⟩ ?_
  exact loop1 (pM nc + 1) 0 (pK nc) (by (first | omega | (dsimp only [rN, rC, rF, rG, rH, rA, sN, sC, sI, sD, sO, sA, uN, uF, pA, pC, pX, pL, pR, pK, pM] at *; omega))) (by (first | omega | (dsimp only [rN, rC, rF, rG, rH, rA, sN, sC, sI, sD, sO, sA, uN, uF, pA, pC, pX, pL, pR, pK, pM] at *; omega))) nu (fun j hj => by (first | omega | (dsimp only [rN, rC, rF, rG, rH, rA, sN, sC, sI, sD, sO, sA, uN, uF, pA, pC, pX, pL, pR, pK, pM] at *; omega)))
  
