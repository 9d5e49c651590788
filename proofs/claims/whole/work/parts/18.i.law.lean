set_option maxHeartbeats 4000000 in
set_option maxRecDepth 100000 in
theorem law_loop {X : gC} {l : Launch} {E : gE} {b L : Nat} {xs : Nat → Int32} (hX : gOK X code "NameScopeLaw" l E rm_LW 4) (hL : gL X b L xs) (hL2 : L ≤ 2048) (x g kp pa la s n ps m : Nat) (A : Nat → Nat) : ∀ (d i : Nat) (te sp : Nat) (gc : GlT) (kpc pac lac : RowT) (sc : ScT) (nc : PnT) (psc : ScT) (tec spc : RowT) (gn ln cn kn sn dn : Nat) (mt mg : Int) (G LK LB K B KK KB SK SB DK DB SZ WH BO : Nat → Int) (cells slots : Nat), L < i + d → i ≤ L → lwI gc kpc pac lac sc nc psc tec spc gn ln cn kn sn G LK LB K B KK KB SK SB → cells ≤ 60 + (rC kpc + rC pac + rC lac + rC tec + rC spc + sC sc + pC nc + sC psc) → slots ≤ 42000 + 8 * (rC kpc + rC pac + rC lac + rC tec + rC spc + sC sc + pC nc + sC psc) → gW X (nsO x g kp pa la s n te sp ++ (glW E g gc ++ (rowW E kp kpc ++ (rowW E pa pac ++ (rowW E la lac ++ (scW E s sc ++ (pnW E n ps nc ++ (scW E ps psc ++ (rowW E te tec ++ (rowW E sp spc ++ (mdO m A gn ln cn kn sn dn mt mg ++ (mG E A G ++ (mI E A 1 LK ++ (mL E A 2 LB ++ (mI E A 3 K ++ (mL E A 4 B ++ (mI E A 5 KK ++ (mL E A 6 KB ++ (mI E A 7 SK ++ (mL E A 8 SB ++ (mI E A 9 DK ++ (mL E A 10 DB ++ (mI E A 11 SZ ++ (mI E A 12 WH ++ (mI E A 13 BO))))))))))))))))))))))))) cells slots 18 [(0, .ref b), (1, .ref x), (2, .ref m), (3, .int (iI (i : Int)))] [] := by
  intro d
  induction d with
  | zero => intro i te sp gc kpc pac lac sc nc psc tec spc gn ln cn kn sn dn mt mg G LK LB K B KK KB SK SB DK DB SZ WH BO cells slots hfu hi; (first | omega | (dsimp only [rN, rC, rF, rG, rH, rA, sN, sC, sI, sD, sO, sA, uN, uF, pA, pC, pX, pL, pR, pK, pM] at *; omega))
  | succ d ih =>
    intro i te sp gc kpc pac lac sc nc psc tec spc gn ln cn kn sn dn mt mg G LK LB K B KK KB SK SB DK DB SZ WH BO cells slots hfu hi hI hc hs
    obtain ⟨hG, hKp, hPa, hLa, sk, nk, psk, hTe, spk⟩ := id hI
    obtain ⟨gk, g1, g2, g3⟩ := id hG
    obtain ⟨kpk, k1, k2, k3, k4⟩ := id hKp
    obtain ⟨pak, p1, p2, p3, p4⟩ := id hPa
    obtain ⟨lak, l1, l2, l3, l4⟩ := id hLa
    obtain ⟨tek, t1, t2, t3, t4⟩ := id hTe
    have gb1 := gk.1
    obtain ⟨⟨kpb1, kpb2, kpb3, kpb4⟩, -⟩ := id kpk
    obtain ⟨⟨pab1, pab2, pab3, pab4⟩, -⟩ := id pak
    obtain ⟨⟨lab1, lab2, lab3, lab4⟩, -⟩ := id lak
    obtain ⟨⟨teb1, teb2, teb3, teb4⟩, -⟩ := id tek
    obtain ⟨⟨spb1, spb2, spb3, spb4⟩, -⟩ := id spk
    obtain ⟨⟨sb1, sb2, sb3, sb4⟩, -⟩ := id sk
    obtain ⟨⟨nb1, nb2, nb3⟩, -⟩ := id nk
    obtain ⟨⟨psb1, psb2, psb3, psb4⟩, -⟩ := id psk
    have k421 : i + 4 ≤ L → lwK X E b i x g kp pa la s n ps m A := by
      intro hi4 te sp gc kpc pac lac sc nc psc tec spc gn ln cn kn sn dn mt mg G LK LB K B KK KB SK SB DK DB SZ WH BO cells slots hI hc hs
      refine g_iinc (pc := 421) hX d_LW_law_421 (by decide) rfl ?_
      refine g_goto (pc := 424) (tgt := 18) hX d_LW_law_424 (by decide) ?_
      refine g_lv [(0, .ref b), (1, .ref x), (2, .ref m), (3, .int (iI ((i + 4 : Nat) : Int)))] ⟨rfl, rfl, rfl, rfl, trivial⟩ ?_
      exact ih (i + 4) te sp gc kpc pac lac sc nc psc tec spc gn ln cn kn sn dn mt mg G LK LB K B KK KB SK SB DK DB SZ WH BO cells slots (by (first | omega | (dsimp only [rN, rC, rF, rG, rH, rA, sN, sC, sI, sD, sO, sA, uN, uF, pA, pC, pX, pL, pR, pK, pM] at *; omega))) (by (first | omega | (dsimp only [rN, rC, rF, rG, rH, rA, sN, sC, sI, sD, sO, sA, uN, uF, pA, pC, pX, pL, pR, pK, pM] at *; omega))) hI hc hs
    refine g_iload_n (pc := 18) hX 3 d_LW_law_18 rfl rfl ?_
    refine g_aload_n (pc := 19) hX 0 d_LW_law_19 rfl rfl ?_
    refine g_slen (pc := 20) hX hL d_LW_law_20 ?_
    refine g_iconst (pc := 21) hX d_LW_law_21 ?_
    refine g_isub (pc := 22) hX d_LW_law_22 ?_
    refine g_icmp_gt (pc := 23) (tgt := 427) hX d_LW_law_23 (by decide) (by (first | omega | (dsimp only [rN, rC, rF, rG, rH, rA, sN, sC, sI, sD, sO, sA, uN, uF, pA, pC, pX, pL, pR, pK, pM] at *; omega))) (by (first | omega | (dsimp only [rN, rC, rF, rG, rH, rA, sN, sC, sI, sD, sO, sA, uN, uF, pA, pC, pX, pL, pR, pK, pM] at *; omega))) (fun c_1 => ?_) (fun c_1 => ?_)
    · refine g_iconst (pc := 427) hX d_LW_law_427 ?_
      exact g_lwret (pc := 428) hX hL d_LW_law_428 (by (first | omega | (dsimp only [rN, rC, rF, rG, rH, rA, sN, sC, sI, sD, sO, sA, uN, uF, pA, pC, pX, pL, pR, pK, pM] at *; omega))) (by (first | omega | (dsimp only [rN, rC, rF, rG, rH, rA, sN, sC, sI, sD, sO, sA, uN, uF, pA, pC, pX, pL, pR, pK, pM] at *; omega)))
    have hi4 : i + 4 ≤ L := by (first | omega | (dsimp only [rN, rC, rF, rG, rH, rA, sN, sC, sI, sD, sO, sA, uN, uF, pA, pC, pX, pL, pR, pK, pM] at *; omega))
    refine g_aload_n (pc := 26) hX 0 d_LW_law_26 rfl rfl ?_
    refine g_iload_n (pc := 27) hX 3 d_LW_law_27 rfl rfl ?_
    refine g_sldN (pc := 28) hX hL (k := i) (by (first | omega | (dsimp only [rN, rC, rF, rG, rH, rA, sN, sC, sI, sD, sO, sA, uN, uF, pA, pC, pX, pL, pR, pK, pM] at *; omega))) d_LW_law_28 ?_
    refine g_bipush (pc := 29) hX 15 d_LW_law_29 (by decide) ?_
    refine g_iand (pc := 31) hX (iw (yv xs i)) d_LW_law_31 (iw_e _) ?_
    have hgw := iw_gin (yv xs i)
    by_cases e_0 : iw (yv xs i) = 0
    · refine g_tsw (pc := 32) (tgt := 100) (off := 68) hX d_LW_law_32 hgw (by (first | omega | (dsimp only [rN, rC, rF, rG, rH, rA, sN, sC, sI, sD, sO, sA, uN, uF, pA, pC, pX, pL, pR, pK, pM] at *; omega))) (by (first | omega | (dsimp only [rN, rC, rF, rG, rH, rA, sN, sC, sI, sD, sO, sA, uN, uF, pA, pC, pX, pL, pR, pK, pM] at *; omega))) (by rw [e_0]; rfl) (by decide) ?_
      exact law_0 hX hL i ⟨hi4, hL2⟩ x g kp pa la s n ps m A te sp gc kpc pac lac sc nc psc tec spc gn ln cn kn sn dn mt mg G LK LB K B KK KB SK SB DK DB SZ WH BO cells slots hI hc hs (k421 hi4)
    by_cases e_1 : iw (yv xs i) = 1
    · refine g_tsw (pc := 32) (tgt := 153) (off := 121) hX d_LW_law_32 hgw (by (first | omega | (dsimp only [rN, rC, rF, rG, rH, rA, sN, sC, sI, sD, sO, sA, uN, uF, pA, pC, pX, pL, pR, pK, pM] at *; omega))) (by (first | omega | (dsimp only [rN, rC, rF, rG, rH, rA, sN, sC, sI, sD, sO, sA, uN, uF, pA, pC, pX, pL, pR, pK, pM] at *; omega))) (by rw [e_1]; rfl) (by decide) ?_
      exact law_1 hX hL i ⟨hi4, hL2⟩ x g kp pa la s n ps m A te sp gc kpc pac lac sc nc psc tec spc gn ln cn kn sn dn mt mg G LK LB K B KK KB SK SB DK DB SZ WH BO cells slots hI hc hs (k421 hi4)
    by_cases e_2 : iw (yv xs i) = 2
    · refine g_tsw (pc := 32) (tgt := 216) (off := 184) hX d_LW_law_32 hgw (by (first | omega | (dsimp only [rN, rC, rF, rG, rH, rA, sN, sC, sI, sD, sO, sA, uN, uF, pA, pC, pX, pL, pR, pK, pM] at *; omega))) (by (first | omega | (dsimp only [rN, rC, rF, rG, rH, rA, sN, sC, sI, sD, sO, sA, uN, uF, pA, pC, pX, pL, pR, pK, pM] at *; omega))) (by rw [e_2]; rfl) (by decide) ?_
      exact law_2 hX hL i ⟨hi4, hL2⟩ x g kp pa la s n ps m A te sp gc kpc pac lac sc nc psc tec spc gn ln cn kn sn dn mt mg G LK LB K B KK KB SK SB DK DB SZ WH BO cells slots hI hc hs (k421 hi4)
    by_cases e_3 : iw (yv xs i) = 3
    · refine g_tsw (pc := 32) (tgt := 229) (off := 197) hX d_LW_law_32 hgw (by (first | omega | (dsimp only [rN, rC, rF, rG, rH, rA, sN, sC, sI, sD, sO, sA, uN, uF, pA, pC, pX, pL, pR, pK, pM] at *; omega))) (by (first | omega | (dsimp only [rN, rC, rF, rG, rH, rA, sN, sC, sI, sD, sO, sA, uN, uF, pA, pC, pX, pL, pR, pK, pM] at *; omega))) (by rw [e_3]; rfl) (by decide) ?_
      exact law_3 hX hL i ⟨hi4, hL2⟩ x g kp pa la s n ps m A te sp gc kpc pac lac sc nc psc tec spc gn ln cn kn sn dn mt mg G LK LB K B KK KB SK SB DK DB SZ WH BO cells slots hI hc hs (k421 hi4)
    by_cases e_4 : iw (yv xs i) = 4
    · refine g_tsw (pc := 32) (tgt := 242) (off := 210) hX d_LW_law_32 hgw (by (first | omega | (dsimp only [rN, rC, rF, rG, rH, rA, sN, sC, sI, sD, sO, sA, uN, uF, pA, pC, pX, pL, pR, pK, pM] at *; omega))) (by (first | omega | (dsimp only [rN, rC, rF, rG, rH, rA, sN, sC, sI, sD, sO, sA, uN, uF, pA, pC, pX, pL, pR, pK, pM] at *; omega))) (by rw [e_4]; rfl) (by decide) ?_
      exact law_4 hX hL i ⟨hi4, hL2⟩ x g kp pa la s n ps m A te sp gc kpc pac lac sc nc psc tec spc gn ln cn kn sn dn mt mg G LK LB K B KK KB SK SB DK DB SZ WH BO cells slots hI hc hs (k421 hi4)
    by_cases e_5 : iw (yv xs i) = 5
    · refine g_tsw (pc := 32) (tgt := 255) (off := 223) hX d_LW_law_32 hgw (by (first | omega | (dsimp only [rN, rC, rF, rG, rH, rA, sN, sC, sI, sD, sO, sA, uN, uF, pA, pC, pX, pL, pR, pK, pM] at *; omega))) (by (first | omega | (dsimp only [rN, rC, rF, rG, rH, rA, sN, sC, sI, sD, sO, sA, uN, uF, pA, pC, pX, pL, pR, pK, pM] at *; omega))) (by rw [e_5]; rfl) (by decide) ?_
      exact law_5 hX hL i ⟨hi4, hL2⟩ x g kp pa la s n ps m A te sp gc kpc pac lac sc nc psc tec spc gn ln cn kn sn dn mt mg G LK LB K B KK KB SK SB DK DB SZ WH BO cells slots hI hc hs (k421 hi4)
    by_cases e_6 : iw (yv xs i) = 6
    · refine g_tsw (pc := 32) (tgt := 289) (off := 257) hX d_LW_law_32 hgw (by (first | omega | (dsimp only [rN, rC, rF, rG, rH, rA, sN, sC, sI, sD, sO, sA, uN, uF, pA, pC, pX, pL, pR, pK, pM] at *; omega))) (by (first | omega | (dsimp only [rN, rC, rF, rG, rH, rA, sN, sC, sI, sD, sO, sA, uN, uF, pA, pC, pX, pL, pR, pK, pM] at *; omega))) (by rw [e_6]; rfl) (by decide) ?_
      exact law_6 hX hL i ⟨hi4, hL2⟩ x g kp pa la s n ps m A te sp gc kpc pac lac sc nc psc tec spc gn ln cn kn sn dn mt mg G LK LB K B KK KB SK SB DK DB SZ WH BO cells slots hI hc hs (k421 hi4)
    by_cases e_7 : iw (yv xs i) = 7
    · refine g_tsw (pc := 32) (tgt := 312) (off := 280) hX d_LW_law_32 hgw (by (first | omega | (dsimp only [rN, rC, rF, rG, rH, rA, sN, sC, sI, sD, sO, sA, uN, uF, pA, pC, pX, pL, pR, pK, pM] at *; omega))) (by (first | omega | (dsimp only [rN, rC, rF, rG, rH, rA, sN, sC, sI, sD, sO, sA, uN, uF, pA, pC, pX, pL, pR, pK, pM] at *; omega))) (by rw [e_7]; rfl) (by decide) ?_
      exact law_7 hX hL i ⟨hi4, hL2⟩ x g kp pa la s n ps m A te sp gc kpc pac lac sc nc psc tec spc gn ln cn kn sn dn mt mg G LK LB K B KK KB SK SB DK DB SZ WH BO cells slots hI hc hs (k421 hi4)
    by_cases e_8 : iw (yv xs i) = 8
    · refine g_tsw (pc := 32) (tgt := 335) (off := 303) hX d_LW_law_32 hgw (by (first | omega | (dsimp only [rN, rC, rF, rG, rH, rA, sN, sC, sI, sD, sO, sA, uN, uF, pA, pC, pX, pL, pR, pK, pM] at *; omega))) (by (first | omega | (dsimp only [rN, rC, rF, rG, rH, rA, sN, sC, sI, sD, sO, sA, uN, uF, pA, pC, pX, pL, pR, pK, pM] at *; omega))) (by rw [e_8]; rfl) (by decide) ?_
      exact law_8 hX hL i ⟨hi4, hL2⟩ x g kp pa la s n ps m A te sp gc kpc pac lac sc nc psc tec spc gn ln cn kn sn dn mt mg G LK LB K B KK KB SK SB DK DB SZ WH BO cells slots hI hc hs (k421 hi4)
    by_cases e_9 : iw (yv xs i) = 9
    · refine g_tsw (pc := 32) (tgt := 348) (off := 316) hX d_LW_law_32 hgw (by (first | omega | (dsimp only [rN, rC, rF, rG, rH, rA, sN, sC, sI, sD, sO, sA, uN, uF, pA, pC, pX, pL, pR, pK, pM] at *; omega))) (by (first | omega | (dsimp only [rN, rC, rF, rG, rH, rA, sN, sC, sI, sD, sO, sA, uN, uF, pA, pC, pX, pL, pR, pK, pM] at *; omega))) (by rw [e_9]; rfl) (by decide) ?_
      exact law_9 hX hL i ⟨hi4, hL2⟩ x g kp pa la s n ps m A te sp gc kpc pac lac sc nc psc tec spc gn ln cn kn sn dn mt mg G LK LB K B KK KB SK SB DK DB SZ WH BO cells slots hI hc hs (k421 hi4)
    by_cases e_10 : iw (yv xs i) = 10
    · refine g_tsw (pc := 32) (tgt := 382) (off := 350) hX d_LW_law_32 hgw (by (first | omega | (dsimp only [rN, rC, rF, rG, rH, rA, sN, sC, sI, sD, sO, sA, uN, uF, pA, pC, pX, pL, pR, pK, pM] at *; omega))) (by (first | omega | (dsimp only [rN, rC, rF, rG, rH, rA, sN, sC, sI, sD, sO, sA, uN, uF, pA, pC, pX, pL, pR, pK, pM] at *; omega))) (by rw [e_10]; rfl) (by decide) ?_
      exact law_10 hX hL i ⟨hi4, hL2⟩ x g kp pa la s n ps m A te sp gc kpc pac lac sc nc psc tec spc gn ln cn kn sn dn mt mg G LK LB K B KK KB SK SB DK DB SZ WH BO cells slots hI hc hs (k421 hi4)
    by_cases e_11 : iw (yv xs i) = 11
    · refine g_tsw (pc := 32) (tgt := 395) (off := 363) hX d_LW_law_32 hgw (by (first | omega | (dsimp only [rN, rC, rF, rG, rH, rA, sN, sC, sI, sD, sO, sA, uN, uF, pA, pC, pX, pL, pR, pK, pM] at *; omega))) (by (first | omega | (dsimp only [rN, rC, rF, rG, rH, rA, sN, sC, sI, sD, sO, sA, uN, uF, pA, pC, pX, pL, pR, pK, pM] at *; omega))) (by rw [e_11]; rfl) (by decide) ?_
      exact law_11 hX hL i ⟨hi4, hL2⟩ x g kp pa la s n ps m A te sp gc kpc pac lac sc nc psc tec spc gn ln cn kn sn dn mt mg G LK LB K B KK KB SK SB DK DB SZ WH BO cells slots hI hc hs (k421 hi4)
    by_cases e_12 : iw (yv xs i) = 12
    · refine g_tsw (pc := 32) (tgt := 408) (off := 376) hX d_LW_law_32 hgw (by (first | omega | (dsimp only [rN, rC, rF, rG, rH, rA, sN, sC, sI, sD, sO, sA, uN, uF, pA, pC, pX, pL, pR, pK, pM] at *; omega))) (by (first | omega | (dsimp only [rN, rC, rF, rG, rH, rA, sN, sC, sI, sD, sO, sA, uN, uF, pA, pC, pX, pL, pR, pK, pM] at *; omega))) (by rw [e_12]; rfl) (by decide) ?_
      exact law_12 hX hL i ⟨hi4, hL2⟩ x g kp pa la s n ps m A te sp gc kpc pac lac sc nc psc tec spc gn ln cn kn sn dn mt mg G LK LB K B KK KB SK SB DK DB SZ WH BO cells slots hI hc hs (k421 hi4)
    refine g_tswO (pc := 32) (tgt := 421) hX d_LW_law_32 hgw (by (first | omega | (dsimp only [rN, rC, rF, rG, rH, rA, sN, sC, sI, sD, sO, sA, uN, uF, pA, pC, pX, pL, pR, pK, pM] at *; omega))) (by decide) ?_
    exact k421 hi4 te sp gc kpc pac lac sc nc psc tec spc gn ln cn kn sn dn mt mg G LK LB K B KK KB SK SB DK DB SZ WH BO cells slots hI hc hs
