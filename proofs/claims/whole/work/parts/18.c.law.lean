abbrev rm_LW : Room := { frames := 9, cells := 600000, slots := 7302250, locals := 348 }
def lwK (X : gC) (E : gE) (b i : Nat) (x g kp pa la s n ps m : Nat) (A : Nat → Nat) : Prop := ∀ (te sp : Nat) (gc : GlT) (kpc pac lac : RowT) (sc : ScT) (nc : PnT) (psc : ScT) (tec spc : RowT) (gn ln cn kn sn dn : Nat) (mt mg : Int) (G LK LB K B KK KB SK SB DK DB SZ WH BO : Nat → Int) (cells slots : Nat), lwI gc kpc pac lac sc nc psc tec spc gn ln cn kn sn G LK LB K B KK KB SK SB → cells ≤ 60 + (rC kpc + rC pac + rC lac + rC tec + rC spc + sC sc + pC nc + sC psc) → slots ≤ 42000 + 8 * (rC kpc + rC pac + rC lac + rC tec + rC spc + sC sc + pC nc + sC psc) → gW X (nsO x g kp pa la s n te sp ++ (glW E g gc ++ (rowW E kp kpc ++ (rowW E pa pac ++ (rowW E la lac ++ (scW E s sc ++ (pnW E n ps nc ++ (scW E ps psc ++ (rowW E te tec ++ (rowW E sp spc ++ (mdO m A gn ln cn kn sn dn mt mg ++ (mG E A G ++ (mI E A 1 LK ++ (mL E A 2 LB ++ (mI E A 3 K ++ (mL E A 4 B ++ (mI E A 5 KK ++ (mL E A 6 KB ++ (mI E A 7 SK ++ (mL E A 8 SB ++ (mI E A 9 DK ++ (mL E A 10 DB ++ (mI E A 11 SZ ++ (mI E A 12 WH ++ (mI E A 13 BO))))))))))))))))))))))))) cells slots 421 [(0, .ref b), (1, .ref x), (2, .ref m), (3, .int (iI (i : Int)))] []

set_option maxHeartbeats 4000000 in
set_option maxRecDepth 100000 in
theorem law_0 {X : gC} {l : Launch} {E : gE} {b L : Nat} {xs : Nat → Int32} (hX : gOK X code "NameScopeLaw" l E rm_LW 4) (hL : gL X b L xs) (i : Nat) (hi : i + 4 ≤ L ∧ L ≤ 2048) (x g kp pa la s n ps m : Nat) (A : Nat → Nat) (te sp : Nat) (gc : GlT) (kpc pac lac : RowT) (sc : ScT) (nc : PnT) (psc : ScT) (tec spc : RowT) (gn ln cn kn sn dn : Nat) (mt mg : Int) (G LK LB K B KK KB SK SB DK DB SZ WH BO : Nat → Int) (cells slots : Nat) (hI : lwI gc kpc pac lac sc nc psc tec spc gn ln cn kn sn G LK LB K B KK KB SK SB) (hc : cells ≤ 60 + (rC kpc + rC pac + rC lac + rC tec + rC spc + sC sc + pC nc + sC psc)) (hs : slots ≤ 42000 + 8 * (rC kpc + rC pac + rC lac + rC tec + rC spc + sC sc + pC nc + sC psc)) (kk : lwK X E b i x g kp pa la s n ps m A) : gW X (nsO x g kp pa la s n te sp ++ (glW E g gc ++ (rowW E kp kpc ++ (rowW E pa pac ++ (rowW E la lac ++ (scW E s sc ++ (pnW E n ps nc ++ (scW E ps psc ++ (rowW E te tec ++ (rowW E sp spc ++ (mdO m A gn ln cn kn sn dn mt mg ++ (mG E A G ++ (mI E A 1 LK ++ (mL E A 2 LB ++ (mI E A 3 K ++ (mL E A 4 B ++ (mI E A 5 KK ++ (mL E A 6 KB ++ (mI E A 7 SK ++ (mL E A 8 SB ++ (mI E A 9 DK ++ (mL E A 10 DB ++ (mI E A 11 SZ ++ (mI E A 12 WH ++ (mI E A 13 BO))))))))))))))))))))))))) cells slots 100 [(0, .ref b), (1, .ref x), (2, .ref m), (3, .int (iI (i : Int)))] [] := by
  obtain ⟨hG, hKp, hPa, hLa, sk, nk, psk, hTe, spk⟩ := id hI
  obtain ⟨gk, g1, g2, g3⟩ := id hG
  obtain ⟨kpk, k1, k2, k3, k4⟩ := id hKp
  obtain ⟨pak, p1, p2, p3, p4⟩ := id hPa
  obtain ⟨lak, l1, l2, l3, l4⟩ := id hLa
  obtain ⟨tek, t1, t2, t3, t4⟩ := id hTe
  have gb1 := gk.1
  obtain ⟨⟨kpb1, kpb2, kpb3, kpb4⟩, -⟩ := id kpk
  obtain ⟨⟨pab1, pab2, pab3, pab4⟩, -⟩ := id pak
  obtain ⟨⟨lab1, lab2, lab3, lab4⟩, -⟩ := id lak
  obtain ⟨⟨teb1, teb2, teb3, teb4⟩, -⟩ := id tek
  obtain ⟨⟨spb1, spb2, spb3, spb4⟩, -⟩ := id spk
  obtain ⟨⟨sb1, sb2, sb3, sb4⟩, -⟩ := id sk
  obtain ⟨⟨nb1, nb2, nb3⟩, -⟩ := id nk
  obtain ⟨⟨psb1, psb2, psb3, psb4⟩, -⟩ := id psk
  refine g_aload_n (pc := 100) hX 1 d_LW_law_100 rfl rfl ?_
  refine g_aload_n (pc := 101) hX 0 d_LW_law_101 rfl rfl ?_
  refine g_iload_n (pc := 102) hX 3 d_LW_law_102 rfl rfl ?_
  refine g_iconst (pc := 103) hX d_LW_law_103 ?_
  refine g_iadd (pc := 104) hX d_LW_law_104 ?_
  refine g_sldN (pc := 105) hX hL (k := (i + 1)) (by (first | omega | (dsimp only [rN, rC, rF, rG, rH, rA, sN, sC, sI, sD, sO, sA, uN, uF, pA, pC, pX, pL, pR, pK, pM] at *; omega))) d_LW_law_105 ?_
  refine g_i2l (pc := 106) hX d_LW_law_106 (yv_gin _ _) ?_
  refine g_bipush (pc := 107) hX 32 d_LW_law_107 (by decide) ?_
  refine g_lshl (pc := 109) hX (lsh (yv xs (i + 1))) d_LW_law_109 (lsh_e _) ?_
  refine g_aload_n (pc := 110) hX 0 d_LW_law_110 rfl rfl ?_
  refine g_iload_n (pc := 111) hX 3 d_LW_law_111 rfl rfl ?_
  refine g_iconst (pc := 112) hX d_LW_law_112 ?_
  refine g_iadd (pc := 113) hX d_LW_law_113 ?_
  refine g_sldN (pc := 114) hX hL (k := (i + 2)) (by (first | omega | (dsimp only [rN, rC, rF, rG, rH, rA, sN, sC, sI, sD, sO, sA, uN, uF, pA, pC, pX, pL, pR, pK, pM] at *; omega))) d_LW_law_114 ?_
  refine g_i2l (pc := 115) hX d_LW_law_115 (yv_gin _ _) ?_
  refine g_ldc2 (pc := 116) hX 4294967295 w_649 (by decide) d_LW_law_116 ?_
  refine g_land (pc := 119) hX (lmk (yv xs (i + 2))) d_LW_law_119 (lmk_e _) ?_
  refine g_lor (pc := 120) hX (lz (yv xs (i + 1)) (yv xs (i + 2))) d_LW_law_120 (lz_e _ _) ?_
  refine g_callV (pc := 121) hX (c_NS_global l E x g kp pa la s n te sp gc gk _ (lz_gil _ _)) gy_NS_global gv_NS_global w_125 rfl (by decide) (by decide) [0, 1, 2] rfl (by decide +kernel) rfl rfl rfl _ rfl (Nat.le_of_ble_eq_true rfl) d_LW_law_121 (show _ + 0 ≤ 600000 by (first | omega | (dsimp only [rN, rC, rF, rG, rH, rA, sN, sC, sI, sD, sO, sA, uN, uF, pA, pC, pX, pL, pR, pK, pM] at *; omega))) (show _ + 0 ≤ 7302250 by (first | omega | (dsimp only [rN, rC, rF, rG, rH, rA, sN, sC, sI, sD, sO, sA, uN, uF, pA, pC, pX, pL, pR, pK, pM] at *; omega))) (fun _ _ _ _ h => by obtain ⟨_, _, _, h2, _⟩ := h; rw [h2]; exact Nat.le_of_ble_eq_true rfl) (fun v w dc_1 ds_1 hp => ?_)
  obtain ⟨γ, r1, rfl, rfl, gk2, hg1, rfl, rfl⟩ := hp
  refine g_wsP (nsO x g kp pa la s n te sp ++ (glW E g γ ++ (rowW E kp kpc ++ (rowW E pa pac ++ (rowW E la lac ++ (scW E s sc ++ (pnW E n ps nc ++ (scW E ps psc ++ (rowW E te tec ++ (rowW E sp spc ++ (mdO m A gn ln cn kn sn dn mt mg ++ (mG E A G ++ (mI E A 1 LK ++ (mL E A 2 LB ++ (mI E A 3 K ++ (mL E A 4 B ++ (mI E A 5 KK ++ (mL E A 6 KB ++ (mI E A 7 SK ++ (mL E A 8 SB ++ (mI E A 9 DK ++ (mL E A 10 DB ++ (mI E A 11 SZ ++ (mI E A 12 WH ++ (mI E A 13 BO))))))))))))))))))))))))) rfl rfl ?_
  refine g_aload_n (pc := 124) hX 2 d_LW_law_124 rfl rfl ?_
  refine g_aload_n (pc := 125) hX 0 d_LW_law_125 rfl rfl ?_
  refine g_iload_n (pc := 126) hX 3 d_LW_law_126 rfl rfl ?_
  refine g_iconst (pc := 127) hX d_LW_law_127 ?_
  refine g_iadd (pc := 128) hX d_LW_law_128 ?_
  refine g_sldN (pc := 129) hX hL (k := (i + 1)) (by (first | omega | (dsimp only [rN, rC, rF, rG, rH, rA, sN, sC, sI, sD, sO, sA, uN, uF, pA, pC, pX, pL, pR, pK, pM] at *; omega))) d_LW_law_129 ?_
  refine g_i2l (pc := 130) hX d_LW_law_130 (yv_gin _ _) ?_
  refine g_bipush (pc := 131) hX 32 d_LW_law_131 (by decide) ?_
  refine g_lshl (pc := 133) hX (lsh (yv xs (i + 1))) d_LW_law_133 (lsh_e _) ?_
  refine g_aload_n (pc := 134) hX 0 d_LW_law_134 rfl rfl ?_
  refine g_iload_n (pc := 135) hX 3 d_LW_law_135 rfl rfl ?_
  refine g_iconst (pc := 136) hX d_LW_law_136 ?_
  refine g_iadd (pc := 137) hX d_LW_law_137 ?_
  refine g_sldN (pc := 138) hX hL (k := (i + 2)) (by (first | omega | (dsimp only [rN, rC, rF, rG, rH, rA, sN, sC, sI, sD, sO, sA, uN, uF, pA, pC, pX, pL, pR, pK, pM] at *; omega))) d_LW_law_138 ?_
  refine g_i2l (pc := 139) hX d_LW_law_139 (yv_gin _ _) ?_
  refine g_ldc2 (pc := 140) hX 4294967295 w_649 (by decide) d_LW_law_140 ?_
  refine g_land (pc := 143) hX (lmk (yv xs (i + 2))) d_LW_law_143 (lmk_e _) ?_
  refine g_lor (pc := 144) hX (lz (yv xs (i + 1)) (yv xs (i + 2))) d_LW_law_144 (lz_e _ _) ?_
  refine g_callV (pc := 145) hX (c_MD_global l E m A gn ln cn kn sn dn mt mg G _ (lz_gil _ _) (by (first | omega | (dsimp only [rN, rC, rF, rG, rH, rA, sN, sC, sI, sD, sO, sA, uN, uF, pA, pC, pX, pL, pR, pK, pM] at *; omega))) (fun j hj => by have := g3 j hj; (first | omega | (dsimp only [rN, rC, rF, rG, rH, rA, sN, sC, sI, sD, sO, sA, uN, uF, pA, pC, pX, pL, pR, pK, pM] at *; omega)))) gy_MD_global gv_MD_global w_526 rfl (by decide) (by decide) [36, 37] rfl (by decide +kernel) rfl rfl rfl _ rfl (Nat.le_of_ble_eq_true rfl) d_LW_law_145 (show _ + 0 ≤ 600000 by (first | omega | (dsimp only [rN, rC, rF, rG, rH, rA, sN, sC, sI, sD, sO, sA, uN, uF, pA, pC, pX, pL, pR, pK, pM] at *; omega))) (show _ + 0 ≤ 7302250 by (first | omega | (dsimp only [rN, rC, rF, rG, rH, rA, sN, sC, sI, sD, sO, sA, uN, uF, pA, pC, pX, pL, pR, pK, pM] at *; omega))) (fun _ _ _ _ h => (fun h => Or.elim h (fun h => by obtain ⟨_, _, _, _, h2, _⟩ := h; rw [h2]; exact Nat.le_of_ble_eq_true rfl) (fun h => by obtain ⟨_, _, h2, _⟩ := h; rw [h2]; exact Nat.le_of_ble_eq_true rfl)) h) (fun v w dc_2 ds_2 hp => ?_)
  rcases hp with ⟨q1, q2, q3, rfl, rfl, rfl, rfl⟩ | ⟨q1, rfl, rfl, rfl, rfl⟩
  · refine g_wsP (nsO x g kp pa la s n te sp ++ (glW E g γ ++ (rowW E kp kpc ++ (rowW E pa pac ++ (rowW E la lac ++ (scW E s sc ++ (pnW E n ps nc ++ (scW E ps psc ++ (rowW E te tec ++ (rowW E sp spc ++ (mdO m A (gn + 1) ln cn kn sn dn mt mg ++ (mG E A (uZ G gn (lz (yv xs (i + 1)) (yv xs (i + 2)))) ++ (mI E A 1 LK ++ (mL E A 2 LB ++ (mI E A 3 K ++ (mL E A 4 B ++ (mI E A 5 KK ++ (mL E A 6 KB ++ (mI E A 7 SK ++ (mL E A 8 SB ++ (mI E A 9 DK ++ (mL E A 10 DB ++ (mI E A 11 SZ ++ (mI E A 12 WH ++ (mI E A 13 BO))))))))))))))))))))))))) rfl rfl ?_
    have hfd := hG.fd (lz (yv xs (i + 1)) (yv xs (i + 2)))
    rcases hg1 with ⟨a1, a2, a3, a4, a5⟩ | ⟨a1, a2, a3⟩
    · subst a4 a5
      refine g_icmp_eq (pc := 148) (tgt := 421) hX d_LW_law_148 (by decide) (by (first | omega | (dsimp only [rN, rC, rF, rG, rH, rA, sN, sC, sI, sD, sO, sA, uN, uF, pA, pC, pX, pL, pR, pK, pM] at *; omega))) (by (first | omega | (dsimp only [rN, rC, rF, rG, rH, rA, sN, sC, sI, sD, sO, sA, uN, uF, pA, pC, pX, pL, pR, pK, pM] at *; omega))) (fun c_9 => ?_) (fun c_9 => ?_)
      · exact kk te sp ((gc.1, uN gc + 1, uZ (uF gc) (uN gc) (lz (yv xs (i + 1)) (yv xs (i + 2)))) : GlT) kpc pac lac sc nc psc tec spc (gn + 1) ln cn kn sn dn mt mg (uZ G gn (lz (yv xs (i + 1)) (yv xs (i + 2)))) LK LB K B KK KB SK SB DK DB SZ WH BO _ _ ⟨(hG.add q1 gk2), hKp, hPa, hLa, sk, nk, psk, (hTe.un (Nat.le_succ _)), spk⟩ (by (first | omega | (dsimp only [rN, rC, rF, rG, rH, rA, sN, sC, sI, sD, sO, sA, uN, uF, pA, pC, pX, pL, pR, pK, pM] at *; omega))) (by (first | omega | (dsimp only [rN, rC, rF, rG, rH, rA, sN, sC, sI, sD, sO, sA, uN, uF, pA, pC, pX, pL, pR, pK, pM] at *; omega)))
      · exact absurd (by (first | omega | (dsimp only [rN, rC, rF, rG, rH, rA, sN, sC, sI, sD, sO, sA, uN, uF, pA, pC, pX, pL, pR, pK, pM] at *; omega))) c_9
    · exact absurd ⟨q1, by (first | omega | (dsimp only [rN, rC, rF, rG, rH, rA, sN, sC, sI, sD, sO, sA, uN, uF, pA, pC, pX, pL, pR, pK, pM] at *; omega)), by rw [hfd]; exact q2⟩ a1
    
  · refine g_wsP (nsO x g kp pa la s n te sp ++ (glW E g γ ++ (rowW E kp kpc ++ (rowW E pa pac ++ (rowW E la lac ++ (scW E s sc ++ (pnW E n ps nc ++ (scW E ps psc ++ (rowW E te tec ++ (rowW E sp spc ++ (mdO m A gn ln cn kn sn dn mt mg ++ (mG E A G ++ (mI E A 1 LK ++ (mL E A 2 LB ++ (mI E A 3 K ++ (mL E A 4 B ++ (mI E A 5 KK ++ (mL E A 6 KB ++ (mI E A 7 SK ++ (mL E A 8 SB ++ (mI E A 9 DK ++ (mL E A 10 DB ++ (mI E A 11 SZ ++ (mI E A 12 WH ++ (mI E A 13 BO))))))))))))))))))))))))) rfl rfl ?_
    have hfd := hG.fd (lz (yv xs (i + 1)) (yv xs (i + 2)))
    rcases hg1 with ⟨a1, a2, a3, a4, a5⟩ | ⟨a1, a2, a3⟩
    · exact absurd ⟨a1, by rw [← hfd]; exact a3, by (first | omega | (dsimp only [rN, rC, rF, rG, rH, rA, sN, sC, sI, sD, sO, sA, uN, uF, pA, pC, pX, pL, pR, pK, pM] at *; omega))⟩ q1
    · subst a2 a3
      refine g_icmp_eq (pc := 148) (tgt := 421) hX d_LW_law_148 (by decide) (by (first | omega | (dsimp only [rN, rC, rF, rG, rH, rA, sN, sC, sI, sD, sO, sA, uN, uF, pA, pC, pX, pL, pR, pK, pM] at *; omega))) (by (first | omega | (dsimp only [rN, rC, rF, rG, rH, rA, sN, sC, sI, sD, sO, sA, uN, uF, pA, pC, pX, pL, pR, pK, pM] at *; omega))) (fun c_9 => ?_) (fun c_9 => ?_)
      · exact kk te sp γ kpc pac lac sc nc psc tec spc gn ln cn kn sn dn mt mg G LK LB K B KK KB SK SB DK DB SZ WH BO _ _ ⟨hG, hKp, hPa, hLa, sk, nk, psk, hTe, spk⟩ (by (first | omega | (dsimp only [rN, rC, rF, rG, rH, rA, sN, sC, sI, sD, sO, sA, uN, uF, pA, pC, pX, pL, pR, pK, pM] at *; omega))) (by (first | omega | (dsimp only [rN, rC, rF, rG, rH, rA, sN, sC, sI, sD, sO, sA, uN, uF, pA, pC, pX, pL, pR, pK, pM] at *; omega)))
      · exact absurd (rfl) c_9
    

set_option maxHeartbeats 4000000 in
set_option maxRecDepth 100000 in
theorem law_1 {X : gC} {l : Launch} {E : gE} {b L : Nat} {xs : Nat → Int32} (hX : gOK X code "NameScopeLaw" l E rm_LW 4) (hL : gL X b L xs) (i : Nat) (hi : i + 4 ≤ L ∧ L ≤ 2048) (x g kp pa la s n ps m : Nat) (A : Nat → Nat) (te sp : Nat) (gc : GlT) (kpc pac lac : RowT) (sc : ScT) (nc : PnT) (psc : ScT) (tec spc : RowT) (gn ln cn kn sn dn : Nat) (mt mg : Int) (G LK LB K B KK KB SK SB DK DB SZ WH BO : Nat → Int) (cells slots : Nat) (hI : lwI gc kpc pac lac sc nc psc tec spc gn ln cn kn sn G LK LB K B KK KB SK SB) (hc : cells ≤ 60 + (rC kpc + rC pac + rC lac + rC tec + rC spc + sC sc + pC nc + sC psc)) (hs : slots ≤ 42000 + 8 * (rC kpc + rC pac + rC lac + rC tec + rC spc + sC sc + pC nc + sC psc)) (kk : lwK X E b i x g kp pa la s n ps m A) : gW X (nsO x g kp pa la s n te sp ++ (glW E g gc ++ (rowW E kp kpc ++ (rowW E pa pac ++ (rowW E la lac ++ (scW E s sc ++ (pnW E n ps nc ++ (scW E ps psc ++ (rowW E te tec ++ (rowW E sp spc ++ (mdO m A gn ln cn kn sn dn mt mg ++ (mG E A G ++ (mI E A 1 LK ++ (mL E A 2 LB ++ (mI E A 3 K ++ (mL E A 4 B ++ (mI E A 5 KK ++ (mL E A 6 KB ++ (mI E A 7 SK ++ (mL E A 8 SB ++ (mI E A 9 DK ++ (mL E A 10 DB ++ (mI E A 11 SZ ++ (mI E A 12 WH ++ (mI E A 13 BO))))))))))))))))))))))))) cells slots 153 [(0, .ref b), (1, .ref x), (2, .ref m), (3, .int (iI (i : Int)))] [] := by
  obtain ⟨hG, hKp, hPa, hLa, sk, nk, psk, hTe, spk⟩ := id hI
  obtain ⟨gk, g1, g2, g3⟩ := id hG
  obtain ⟨kpk, k1, k2, k3, k4⟩ := id hKp
  obtain ⟨pak, p1, p2, p3, p4⟩ := id hPa
  obtain ⟨lak, l1, l2, l3, l4⟩ := id hLa
  obtain ⟨tek, t1, t2, t3, t4⟩ := id hTe
  have gb1 := gk.1
  obtain ⟨⟨kpb1, kpb2, kpb3, kpb4⟩, -⟩ := id kpk
  obtain ⟨⟨pab1, pab2, pab3, pab4⟩, -⟩ := id pak
  obtain ⟨⟨lab1, lab2, lab3, lab4⟩, -⟩ := id lak
  obtain ⟨⟨teb1, teb2, teb3, teb4⟩, -⟩ := id tek
  obtain ⟨⟨spb1, spb2, spb3, spb4⟩, -⟩ := id spk
  obtain ⟨⟨sb1, sb2, sb3, sb4⟩, -⟩ := id sk
  obtain ⟨⟨nb1, nb2, nb3⟩, -⟩ := id nk
  obtain ⟨⟨psb1, psb2, psb3, psb4⟩, -⟩ := id psk
  refine g_aload_n (pc := 153) hX 1 d_LW_law_153 rfl rfl ?_
  refine g_aload_n (pc := 154) hX 0 d_LW_law_154 rfl rfl ?_
  refine g_iload_n (pc := 155) hX 3 d_LW_law_155 rfl rfl ?_
  refine g_iconst (pc := 156) hX d_LW_law_156 ?_
  refine g_iadd (pc := 157) hX d_LW_law_157 ?_
  refine g_sldN (pc := 158) hX hL (k := (i + 1)) (by (first | omega | (dsimp only [rN, rC, rF, rG, rH, rA, sN, sC, sI, sD, sO, sA, uN, uF, pA, pC, pX, pL, pR, pK, pM] at *; omega))) d_LW_law_158 ?_
  refine g_aload_n (pc := 159) hX 0 d_LW_law_159 rfl rfl ?_
  refine g_iload_n (pc := 160) hX 3 d_LW_law_160 rfl rfl ?_
  refine g_iconst (pc := 161) hX d_LW_law_161 ?_
  refine g_iadd (pc := 162) hX d_LW_law_162 ?_
  refine g_sldN (pc := 163) hX hL (k := (i + 2)) (by (first | omega | (dsimp only [rN, rC, rF, rG, rH, rA, sN, sC, sI, sD, sO, sA, uN, uF, pA, pC, pX, pL, pR, pK, pM] at *; omega))) d_LW_law_163 ?_
  refine g_i2l (pc := 164) hX d_LW_law_164 (yv_gin _ _) ?_
  refine g_bipush (pc := 165) hX 32 d_LW_law_165 (by decide) ?_
  refine g_lshl (pc := 167) hX (lsh (yv xs (i + 2))) d_LW_law_167 (lsh_e _) ?_
  refine g_aload_n (pc := 168) hX 0 d_LW_law_168 rfl rfl ?_
  refine g_iload_n (pc := 169) hX 3 d_LW_law_169 rfl rfl ?_
  refine g_iconst (pc := 170) hX d_LW_law_170 ?_
  refine g_iadd (pc := 171) hX d_LW_law_171 ?_
  refine g_sldN (pc := 172) hX hL (k := (i + 3)) (by (first | omega | (dsimp only [rN, rC, rF, rG, rH, rA, sN, sC, sI, sD, sO, sA, uN, uF, pA, pC, pX, pL, pR, pK, pM] at *; omega))) d_LW_law_172 ?_
  refine g_i2l (pc := 173) hX d_LW_law_173 (yv_gin _ _) ?_
  refine g_ldc2 (pc := 174) hX 4294967295 w_649 (by decide) d_LW_law_174 ?_
  refine g_land (pc := 177) hX (lmk (yv xs (i + 3))) d_LW_law_177 (lmk_e _) ?_
  refine g_lor (pc := 178) hX (lz (yv xs (i + 2)) (yv xs (i + 3))) d_LW_law_178 (lz_e _ _) ?_
  refine g_callV (pc := 179) hX (c_NS_lay l E x g kp pa la s n te sp lac lak _ (yv_gin _ _) _ (lz_gil _ _)) gy_NS_lay gv_NS_lay w_148 rfl (by decide) (by decide) [0, 11, 12, 13, 14] rfl (by decide +kernel) rfl rfl rfl _ rfl (Nat.le_of_ble_eq_true rfl) d_LW_law_179 (show _ + 6000 ≤ 600000 by (first | omega | (dsimp only [rN, rC, rF, rG, rH, rA, sN, sC, sI, sD, sO, sA, uN, uF, pA, pC, pX, pL, pR, pK, pM] at *; omega))) (show _ + 36000 ≤ 7302250 by (first | omega | (dsimp only [rN, rC, rF, rG, rH, rA, sN, sC, sI, sD, sO, sA, uN, uF, pA, pC, pX, pL, pR, pK, pM] at *; omega))) (fun _ _ _ _ h => by obtain ⟨_, _, _, h2, _⟩ := h; rw [h2]; exact Nat.le_of_ble_eq_true rfl) (fun v w dc_1 ds_1 hp => ?_)
  obtain ⟨ρ, r1, rfl, rfl, lk2, hg1⟩ := hp
  obtain ⟨⟨y1, y2, y3, y4⟩, -⟩ := id lk2
  refine g_wsP (nsO x g kp pa la s n te sp ++ (glW E g gc ++ (rowW E kp kpc ++ (rowW E pa pac ++ (rowW E la ρ ++ (scW E s sc ++ (pnW E n ps nc ++ (scW E ps psc ++ (rowW E te tec ++ (rowW E sp spc ++ (mdO m A gn ln cn kn sn dn mt mg ++ (mG E A G ++ (mI E A 1 LK ++ (mL E A 2 LB ++ (mI E A 3 K ++ (mL E A 4 B ++ (mI E A 5 KK ++ (mL E A 6 KB ++ (mI E A 7 SK ++ (mL E A 8 SB ++ (mI E A 9 DK ++ (mL E A 10 DB ++ (mI E A 11 SZ ++ (mI E A 12 WH ++ (mI E A 13 BO))))))))))))))))))))))))) rfl rfl ?_
  rcases hg1 with ⟨a1, a2, a3, a4, a5⟩ | ⟨a1, a2, a3, a4, a5⟩
  · obtain ⟨v1, v2, v3⟩ := a5
    refine g_aload_n (pc := 182) hX 2 d_LW_law_182 rfl rfl ?_
    refine g_aload_n (pc := 183) hX 0 d_LW_law_183 rfl rfl ?_
    refine g_iload_n (pc := 184) hX 3 d_LW_law_184 rfl rfl ?_
    refine g_iconst (pc := 185) hX d_LW_law_185 ?_
    refine g_iadd (pc := 186) hX d_LW_law_186 ?_
    refine g_sldN (pc := 187) hX hL (k := (i + 1)) (by (first | omega | (dsimp only [rN, rC, rF, rG, rH, rA, sN, sC, sI, sD, sO, sA, uN, uF, pA, pC, pX, pL, pR, pK, pM] at *; omega))) d_LW_law_187 ?_
    refine g_aload_n (pc := 188) hX 0 d_LW_law_188 rfl rfl ?_
    refine g_iload_n (pc := 189) hX 3 d_LW_law_189 rfl rfl ?_
    refine g_iconst (pc := 190) hX d_LW_law_190 ?_
    refine g_iadd (pc := 191) hX d_LW_law_191 ?_
    refine g_sldN (pc := 192) hX hL (k := (i + 2)) (by (first | omega | (dsimp only [rN, rC, rF, rG, rH, rA, sN, sC, sI, sD, sO, sA, uN, uF, pA, pC, pX, pL, pR, pK, pM] at *; omega))) d_LW_law_192 ?_
    refine g_i2l (pc := 193) hX d_LW_law_193 (yv_gin _ _) ?_
    refine g_bipush (pc := 194) hX 32 d_LW_law_194 (by decide) ?_
    refine g_lshl (pc := 196) hX (lsh (yv xs (i + 2))) d_LW_law_196 (lsh_e _) ?_
    refine g_aload_n (pc := 197) hX 0 d_LW_law_197 rfl rfl ?_
    refine g_iload_n (pc := 198) hX 3 d_LW_law_198 rfl rfl ?_
    refine g_iconst (pc := 199) hX d_LW_law_199 ?_
    refine g_iadd (pc := 200) hX d_LW_law_200 ?_
    refine g_sldN (pc := 201) hX hL (k := (i + 3)) (by (first | omega | (dsimp only [rN, rC, rF, rG, rH, rA, sN, sC, sI, sD, sO, sA, uN, uF, pA, pC, pX, pL, pR, pK, pM] at *; omega))) d_LW_law_201 ?_
    refine g_i2l (pc := 202) hX d_LW_law_202 (yv_gin _ _) ?_
    refine g_ldc2 (pc := 203) hX 4294967295 w_649 (by decide) d_LW_law_203 ?_
    refine g_land (pc := 206) hX (lmk (yv xs (i + 3))) d_LW_law_206 (lmk_e _) ?_
    refine g_lor (pc := 207) hX (lz (yv xs (i + 2)) (yv xs (i + 3))) d_LW_law_207 (lz_e _ _) ?_
    refine g_callV (pc := 208) hX (c_MD_lay l E m A gn ln cn kn sn dn mt mg LK LB _ (yv_gin _ _) _ (lz_gil _ _) (by (first | omega | (dsimp only [rN, rC, rF, rG, rH, rA, sN, sC, sI, sD, sO, sA, uN, uF, pA, pC, pX, pL, pR, pK, pM] at *; omega)))) gy_MD_lay gv_MD_lay w_545 rfl (by decide) (by decide) [36, 38, 39] rfl (by decide +kernel) rfl rfl rfl _ rfl (Nat.le_of_ble_eq_true rfl) d_LW_law_208 (show _ + 0 ≤ 600000 by (first | omega | (dsimp only [rN, rC, rF, rG, rH, rA, sN, sC, sI, sD, sO, sA, uN, uF, pA, pC, pX, pL, pR, pK, pM] at *; omega))) (show _ + 0 ≤ 7302250 by (first | omega | (dsimp only [rN, rC, rF, rG, rH, rA, sN, sC, sI, sD, sO, sA, uN, uF, pA, pC, pX, pL, pR, pK, pM] at *; omega))) (fun _ _ _ _ h => (fun h => Or.elim h (fun h => by obtain ⟨_, _, _, h2, _⟩ := h; rw [h2]; exact Nat.le_of_ble_eq_true rfl) (fun h => by obtain ⟨_, _, h2, _⟩ := h; rw [h2]; exact Nat.le_of_ble_eq_true rfl)) h) (fun v w dc_2 ds_2 hp => ?_)
    rcases hp with ⟨q1, q2, rfl, rfl, rfl, rfl⟩ | ⟨q1, rfl, rfl, rfl, rfl⟩
    · refine g_wsP (nsO x g kp pa la s n te sp ++ (glW E g gc ++ (rowW E kp kpc ++ (rowW E pa pac ++ (rowW E la ρ ++ (scW E s sc ++ (pnW E n ps nc ++ (scW E ps psc ++ (rowW E te tec ++ (rowW E sp spc ++ (mdO m A gn (ln + 1) cn kn sn dn mt mg ++ (mG E A G ++ (mI E A 1 (uZ LK ln (yv xs (i + 1))) ++ (mL E A 2 (uZ LB ln (lz (yv xs (i + 2)) (yv xs (i + 3)))) ++ (mI E A 3 K ++ (mL E A 4 B ++ (mI E A 5 KK ++ (mL E A 6 KB ++ (mI E A 7 SK ++ (mL E A 8 SB ++ (mI E A 9 DK ++ (mL E A 10 DB ++ (mI E A 11 SZ ++ (mI E A 12 WH ++ (mI E A 13 BO))))))))))))))))))))))))) rfl rfl ?_
      refine g_icmp_eq (pc := 211) (tgt := 421) hX d_LW_law_211 (by decide) (by (first | omega | (dsimp only [rN, rC, rF, rG, rH, rA, sN, sC, sI, sD, sO, sA, uN, uF, pA, pC, pX, pL, pR, pK, pM] at *; omega))) (by (first | omega | (dsimp only [rN, rC, rF, rG, rH, rA, sN, sC, sI, sD, sO, sA, uN, uF, pA, pC, pX, pL, pR, pK, pM] at *; omega))) (fun c_9 => ?_) (fun c_9 => ?_)
      · exact kk te sp gc kpc pac ρ sc nc psc tec spc gn (ln + 1) cn kn sn dn mt mg G (uZ LK ln (yv xs (i + 1))) (uZ LB ln (lz (yv xs (i + 2)) (yv xs (i + 3)))) K B KK KB SK SB DK DB SZ WH BO _ _ ⟨hG, hKp, hPa, (hLa.add lk2 a3 q1), sk, nk, psk, hTe, spk⟩ (by (first | omega | (dsimp only [rN, rC, rF, rG, rH, rA, sN, sC, sI, sD, sO, sA, uN, uF, pA, pC, pX, pL, pR, pK, pM] at *; omega))) (by (first | omega | (dsimp only [rN, rC, rF, rG, rH, rA, sN, sC, sI, sD, sO, sA, uN, uF, pA, pC, pX, pL, pR, pK, pM] at *; omega)))
      · exact absurd (by (first | omega | (dsimp only [rN, rC, rF, rG, rH, rA, sN, sC, sI, sD, sO, sA, uN, uF, pA, pC, pX, pL, pR, pK, pM] at *; omega))) c_9
      
    · refine g_wsP (nsO x g kp pa la s n te sp ++ (glW E g gc ++ (rowW E kp kpc ++ (rowW E pa pac ++ (rowW E la ρ ++ (scW E s sc ++ (pnW E n ps nc ++ (scW E ps psc ++ (rowW E te tec ++ (rowW E sp spc ++ (mdO m A gn ln cn kn sn dn mt mg ++ (mG E A G ++ (mI E A 1 LK ++ (mL E A 2 LB ++ (mI E A 3 K ++ (mL E A 4 B ++ (mI E A 5 KK ++ (mL E A 6 KB ++ (mI E A 7 SK ++ (mL E A 8 SB ++ (mI E A 9 DK ++ (mL E A 10 DB ++ (mI E A 11 SZ ++ (mI E A 12 WH ++ (mI E A 13 BO))))))))))))))))))))))))) rfl rfl ?_
      exact absurd ⟨a1, by (first | omega | (dsimp only [rN, rC, rF, rG, rH, rA, sN, sC, sI, sD, sO, sA, uN, uF, pA, pC, pX, pL, pR, pK, pM] at *; omega))⟩ q1
  · subst a3 a4 a5
    refine g_aload_n (pc := 182) hX 2 d_LW_law_182 rfl rfl ?_
    refine g_aload_n (pc := 183) hX 0 d_LW_law_183 rfl rfl ?_
    refine g_iload_n (pc := 184) hX 3 d_LW_law_184 rfl rfl ?_
    refine g_iconst (pc := 185) hX d_LW_law_185 ?_
    refine g_iadd (pc := 186) hX d_LW_law_186 ?_
    refine g_sldN (pc := 187) hX hL (k := (i + 1)) (by (first | omega | (dsimp only [rN, rC, rF, rG, rH, rA, sN, sC, sI, sD, sO, sA, uN, uF, pA, pC, pX, pL, pR, pK, pM] at *; omega))) d_LW_law_187 ?_
    refine g_aload_n (pc := 188) hX 0 d_LW_law_188 rfl rfl ?_
    refine g_iload_n (pc := 189) hX 3 d_LW_law_189 rfl rfl ?_
    refine g_iconst (pc := 190) hX d_LW_law_190 ?_
    refine g_iadd (pc := 191) hX d_LW_law_191 ?_
    refine g_sldN (pc := 192) hX hL (k := (i + 2)) (by (first | omega | (dsimp only [rN, rC, rF, rG, rH, rA, sN, sC, sI, sD, sO, sA, uN, uF, pA, pC, pX, pL, pR, pK, pM] at *; omega))) d_LW_law_192 ?_
    refine g_i2l (pc := 193) hX d_LW_law_193 (yv_gin _ _) ?_
    refine g_bipush (pc := 194) hX 32 d_LW_law_194 (by decide) ?_
    refine g_lshl (pc := 196) hX (lsh (yv xs (i + 2))) d_LW_law_196 (lsh_e _) ?_
    refine g_aload_n (pc := 197) hX 0 d_LW_law_197 rfl rfl ?_
    refine g_iload_n (pc := 198) hX 3 d_LW_law_198 rfl rfl ?_
    refine g_iconst (pc := 199) hX d_LW_law_199 ?_
    refine g_iadd (pc := 200) hX d_LW_law_200 ?_
    refine g_sldN (pc := 201) hX hL (k := (i + 3)) (by (first | omega | (dsimp only [rN, rC, rF, rG, rH, rA, sN, sC, sI, sD, sO, sA, uN, uF, pA, pC, pX, pL, pR, pK, pM] at *; omega))) d_LW_law_201 ?_
    refine g_i2l (pc := 202) hX d_LW_law_202 (yv_gin _ _) ?_
    refine g_ldc2 (pc := 203) hX 4294967295 w_649 (by decide) d_LW_law_203 ?_
    refine g_land (pc := 206) hX (lmk (yv xs (i + 3))) d_LW_law_206 (lmk_e _) ?_
    refine g_lor (pc := 207) hX (lz (yv xs (i + 2)) (yv xs (i + 3))) d_LW_law_207 (lz_e _ _) ?_
    refine g_callV (pc := 208) hX (c_MD_lay l E m A gn ln cn kn sn dn mt mg LK LB _ (yv_gin _ _) _ (lz_gil _ _) (by (first | omega | (dsimp only [rN, rC, rF, rG, rH, rA, sN, sC, sI, sD, sO, sA, uN, uF, pA, pC, pX, pL, pR, pK, pM] at *; omega)))) gy_MD_lay gv_MD_lay w_545 rfl (by decide) (by decide) [36, 38, 39] rfl (by decide +kernel) rfl rfl rfl _ rfl (Nat.le_of_ble_eq_true rfl) d_LW_law_208 (show _ + 0 ≤ 600000 by (first | omega | (dsimp only [rN, rC, rF, rG, rH, rA, sN, sC, sI, sD, sO, sA, uN, uF, pA, pC, pX, pL, pR, pK, pM] at *; omega))) (show _ + 0 ≤ 7302250 by (first | omega | (dsimp only [rN, rC, rF, rG, rH, rA, sN, sC, sI, sD, sO, sA, uN, uF, pA, pC, pX, pL, pR, pK, pM] at *; omega))) (fun _ _ _ _ h => (fun h => Or.elim h (fun h => by obtain ⟨_, _, _, h2, _⟩ := h; rw [h2]; exact Nat.le_of_ble_eq_true rfl) (fun h => by obtain ⟨_, _, h2, _⟩ := h; rw [h2]; exact Nat.le_of_ble_eq_true rfl)) h) (fun v w dc_3 ds_3 hp => ?_)
    rcases hp with ⟨q1, q2, rfl, rfl, rfl, rfl⟩ | ⟨q1, rfl, rfl, rfl, rfl⟩
    · refine g_wsP (nsO x g kp pa la s n te sp ++ (glW E g gc ++ (rowW E kp kpc ++ (rowW E pa pac ++ (rowW E la ρ ++ (scW E s sc ++ (pnW E n ps nc ++ (scW E ps psc ++ (rowW E te tec ++ (rowW E sp spc ++ (mdO m A gn (ln + 1) cn kn sn dn mt mg ++ (mG E A G ++ (mI E A 1 (uZ LK ln (yv xs (i + 1))) ++ (mL E A 2 (uZ LB ln (lz (yv xs (i + 2)) (yv xs (i + 3)))) ++ (mI E A 3 K ++ (mL E A 4 B ++ (mI E A 5 KK ++ (mL E A 6 KB ++ (mI E A 7 SK ++ (mL E A 8 SB ++ (mI E A 9 DK ++ (mL E A 10 DB ++ (mI E A 11 SZ ++ (mI E A 12 WH ++ (mI E A 13 BO))))))))))))))))))))))))) rfl rfl ?_
      exact absurd ⟨q1, by (first | omega | (dsimp only [rN, rC, rF, rG, rH, rA, sN, sC, sI, sD, sO, sA, uN, uF, pA, pC, pX, pL, pR, pK, pM] at *; omega))⟩ a1
    · refine g_wsP (nsO x g kp pa la s n te sp ++ (glW E g gc ++ (rowW E kp kpc ++ (rowW E pa pac ++ (rowW E la ρ ++ (scW E s sc ++ (pnW E n ps nc ++ (scW E ps psc ++ (rowW E te tec ++ (rowW E sp spc ++ (mdO m A gn ln cn kn sn dn mt mg ++ (mG E A G ++ (mI E A 1 LK ++ (mL E A 2 LB ++ (mI E A 3 K ++ (mL E A 4 B ++ (mI E A 5 KK ++ (mL E A 6 KB ++ (mI E A 7 SK ++ (mL E A 8 SB ++ (mI E A 9 DK ++ (mL E A 10 DB ++ (mI E A 11 SZ ++ (mI E A 12 WH ++ (mI E A 13 BO))))))))))))))))))))))))) rfl rfl ?_
      refine g_icmp_eq (pc := 211) (tgt := 421) hX d_LW_law_211 (by decide) (by (first | omega | (dsimp only [rN, rC, rF, rG, rH, rA, sN, sC, sI, sD, sO, sA, uN, uF, pA, pC, pX, pL, pR, pK, pM] at *; omega))) (by (first | omega | (dsimp only [rN, rC, rF, rG, rH, rA, sN, sC, sI, sD, sO, sA, uN, uF, pA, pC, pX, pL, pR, pK, pM] at *; omega))) (fun c_9 => ?_) (fun c_9 => ?_)
      · exact kk te sp gc kpc pac ρ sc nc psc tec spc gn ln cn kn sn dn mt mg G LK LB K B KK KB SK SB DK DB SZ WH BO _ _ ⟨hG, hKp, hPa, hLa, sk, nk, psk, hTe, spk⟩ (by (first | omega | (dsimp only [rN, rC, rF, rG, rH, rA, sN, sC, sI, sD, sO, sA, uN, uF, pA, pC, pX, pL, pR, pK, pM] at *; omega))) (by (first | omega | (dsimp only [rN, rC, rF, rG, rH, rA, sN, sC, sI, sD, sO, sA, uN, uF, pA, pC, pX, pL, pR, pK, pM] at *; omega)))
      · exact absurd (by (first | omega | (dsimp only [rN, rC, rF, rG, rH, rA, sN, sC, sI, sD, sO, sA, uN, uF, pA, pC, pX, pL, pR, pK, pM] at *; omega))) c_9
      

set_option maxHeartbeats 4000000 in
set_option maxRecDepth 100000 in
theorem law_2 {X : gC} {l : Launch} {E : gE} {b L : Nat} {xs : Nat → Int32} (hX : gOK X code "NameScopeLaw" l E rm_LW 4) (hL : gL X b L xs) (i : Nat) (hi : i + 4 ≤ L ∧ L ≤ 2048) (x g kp pa la s n ps m : Nat) (A : Nat → Nat) (te sp : Nat) (gc : GlT) (kpc pac lac : RowT) (sc : ScT) (nc : PnT) (psc : ScT) (tec spc : RowT) (gn ln cn kn sn dn : Nat) (mt mg : Int) (G LK LB K B KK KB SK SB DK DB SZ WH BO : Nat → Int) (cells slots : Nat) (hI : lwI gc kpc pac lac sc nc psc tec spc gn ln cn kn sn G LK LB K B KK KB SK SB) (hc : cells ≤ 60 + (rC kpc + rC pac + rC lac + rC tec + rC spc + sC sc + pC nc + sC psc)) (hs : slots ≤ 42000 + 8 * (rC kpc + rC pac + rC lac + rC tec + rC spc + sC sc + pC nc + sC psc)) (kk : lwK X E b i x g kp pa la s n ps m A) : gW X (nsO x g kp pa la s n te sp ++ (glW E g gc ++ (rowW E kp kpc ++ (rowW E pa pac ++ (rowW E la lac ++ (scW E s sc ++ (pnW E n ps nc ++ (scW E ps psc ++ (rowW E te tec ++ (rowW E sp spc ++ (mdO m A gn ln cn kn sn dn mt mg ++ (mG E A G ++ (mI E A 1 LK ++ (mL E A 2 LB ++ (mI E A 3 K ++ (mL E A 4 B ++ (mI E A 5 KK ++ (mL E A 6 KB ++ (mI E A 7 SK ++ (mL E A 8 SB ++ (mI E A 9 DK ++ (mL E A 10 DB ++ (mI E A 11 SZ ++ (mI E A 12 WH ++ (mI E A 13 BO))))))))))))))))))))))))) cells slots 216 [(0, .ref b), (1, .ref x), (2, .ref m), (3, .int (iI (i : Int)))] [] := by
  obtain ⟨hG, hKp, hPa, hLa, sk, nk, psk, hTe, spk⟩ := id hI
  obtain ⟨gk, g1, g2, g3⟩ := id hG
  obtain ⟨kpk, k1, k2, k3, k4⟩ := id hKp
  obtain ⟨pak, p1, p2, p3, p4⟩ := id hPa
  obtain ⟨lak, l1, l2, l3, l4⟩ := id hLa
  obtain ⟨tek, t1, t2, t3, t4⟩ := id hTe
  have gb1 := gk.1
  obtain ⟨⟨kpb1, kpb2, kpb3, kpb4⟩, -⟩ := id kpk
  obtain ⟨⟨pab1, pab2, pab3, pab4⟩, -⟩ := id pak
  obtain ⟨⟨lab1, lab2, lab3, lab4⟩, -⟩ := id lak
  obtain ⟨⟨teb1, teb2, teb3, teb4⟩, -⟩ := id tek
  obtain ⟨⟨spb1, spb2, spb3, spb4⟩, -⟩ := id spk
  obtain ⟨⟨sb1, sb2, sb3, sb4⟩, -⟩ := id sk
  obtain ⟨⟨nb1, nb2, nb3⟩, -⟩ := id nk
  obtain ⟨⟨psb1, psb2, psb3, psb4⟩, -⟩ := id psk
  refine g_aload_n (pc := 216) hX 1 d_LW_law_216 rfl rfl ?_
  refine g_callV (pc := 217) hX (c_NS_drop l E x g kp pa la s n te sp lac lak) gy_NS_drop gv_NS_drop w_198 rfl (by decide) (by decide) [0, 11, 12, 13, 14] rfl (by decide +kernel) rfl rfl rfl _ rfl (Nat.le_of_ble_eq_true rfl) d_LW_law_217 (show _ + 0 ≤ 600000 by (first | omega | (dsimp only [rN, rC, rF, rG, rH, rA, sN, sC, sI, sD, sO, sA, uN, uF, pA, pC, pX, pL, pR, pK, pM] at *; omega))) (show _ + 0 ≤ 7302250 by (first | omega | (dsimp only [rN, rC, rF, rG, rH, rA, sN, sC, sI, sD, sO, sA, uN, uF, pA, pC, pX, pL, pR, pK, pM] at *; omega))) (fun _ _ _ _ h => by obtain ⟨_, _, h2, _⟩ := h; rw [h2]; exact Nat.le_of_ble_eq_true rfl) (fun v w dc_1 ds_1 hp => ?_)
  obtain ⟨ρ, rfl, rfl, lk2, a1, a2, rfl, rfl⟩ := hp
  refine g_wsP (nsO x g kp pa la s n te sp ++ (glW E g gc ++ (rowW E kp kpc ++ (rowW E pa pac ++ (rowW E la ρ ++ (scW E s sc ++ (pnW E n ps nc ++ (scW E ps psc ++ (rowW E te tec ++ (rowW E sp spc ++ (mdO m A gn ln cn kn sn dn mt mg ++ (mG E A G ++ (mI E A 1 LK ++ (mL E A 2 LB ++ (mI E A 3 K ++ (mL E A 4 B ++ (mI E A 5 KK ++ (mL E A 6 KB ++ (mI E A 7 SK ++ (mL E A 8 SB ++ (mI E A 9 DK ++ (mL E A 10 DB ++ (mI E A 11 SZ ++ (mI E A 12 WH ++ (mI E A 13 BO))))))))))))))))))))))))) rfl rfl ?_
  refine g_aload_n (pc := 220) hX 2 d_LW_law_220 rfl rfl ?_
  refine g_callV (pc := 221) hX (c_MD_drop l E m A gn ln cn kn sn dn mt mg) gy_MD_drop gv_MD_drop w_550 rfl (by decide) (by decide) [36] rfl (by decide +kernel) rfl rfl rfl _ rfl (Nat.le_of_ble_eq_true rfl) d_LW_law_221 (show _ + 0 ≤ 600000 by (first | omega | (dsimp only [rN, rC, rF, rG, rH, rA, sN, sC, sI, sD, sO, sA, uN, uF, pA, pC, pX, pL, pR, pK, pM] at *; omega))) (show _ + 0 ≤ 7302250 by (first | omega | (dsimp only [rN, rC, rF, rG, rH, rA, sN, sC, sI, sD, sO, sA, uN, uF, pA, pC, pX, pL, pR, pK, pM] at *; omega))) (fun _ _ _ _ h => by obtain ⟨_, h2, _⟩ := h; rw [h2]; exact Nat.le_of_ble_eq_true rfl) (fun v w dc_2 ds_2 hp => ?_)
  obtain ⟨rfl, rfl, rfl, rfl⟩ := hp
  refine g_wsP (nsO x g kp pa la s n te sp ++ (glW E g gc ++ (rowW E kp kpc ++ (rowW E pa pac ++ (rowW E la ρ ++ (scW E s sc ++ (pnW E n ps nc ++ (scW E ps psc ++ (rowW E te tec ++ (rowW E sp spc ++ (mdO m A gn 0 cn kn sn dn mt mg ++ (mG E A G ++ (mI E A 1 LK ++ (mL E A 2 LB ++ (mI E A 3 K ++ (mL E A 4 B ++ (mI E A 5 KK ++ (mL E A 6 KB ++ (mI E A 7 SK ++ (mL E A 8 SB ++ (mI E A 9 DK ++ (mL E A 10 DB ++ (mI E A 11 SZ ++ (mI E A 12 WH ++ (mI E A 13 BO))))))))))))))))))))))))) rfl rfl ?_
  refine g_icmp_eq (pc := 224) (tgt := 421) hX d_LW_law_224 (by decide) (by (first | omega | (dsimp only [rN, rC, rF, rG, rH, rA, sN, sC, sI, sD, sO, sA, uN, uF, pA, pC, pX, pL, pR, pK, pM] at *; omega))) (by (first | omega | (dsimp only [rN, rC, rF, rG, rH, rA, sN, sC, sI, sD, sO, sA, uN, uF, pA, pC, pX, pL, pR, pK, pM] at *; omega))) (fun c_9 => ?_) (fun c_9 => ?_)
  · exact kk te sp gc kpc pac ρ sc nc psc tec spc gn 0 cn kn sn dn mt mg G LK LB K B KK KB SK SB DK DB SZ WH BO _ _ ⟨hG, hKp, hPa, (iL.zero lk2 a1), sk, nk, psk, hTe, spk⟩ (by (first | omega | (dsimp only [rN, rC, rF, rG, rH, rA, sN, sC, sI, sD, sO, sA, uN, uF, pA, pC, pX, pL, pR, pK, pM] at *; omega))) (by (first | omega | (dsimp only [rN, rC, rF, rG, rH, rA, sN, sC, sI, sD, sO, sA, uN, uF, pA, pC, pX, pL, pR, pK, pM] at *; omega)))
  · exact absurd (by (first | omega | (dsimp only [rN, rC, rF, rG, rH, rA, sN, sC, sI, sD, sO, sA, uN, uF, pA, pC, pX, pL, pR, pK, pM] at *; omega))) c_9
  

set_option maxHeartbeats 4000000 in
set_option maxRecDepth 100000 in
theorem law_4 {X : gC} {l : Launch} {E : gE} {b L : Nat} {xs : Nat → Int32} (hX : gOK X code "NameScopeLaw" l E rm_LW 4) (hL : gL X b L xs) (i : Nat) (hi : i + 4 ≤ L ∧ L ≤ 2048) (x g kp pa la s n ps m : Nat) (A : Nat → Nat) (te sp : Nat) (gc : GlT) (kpc pac lac : RowT) (sc : ScT) (nc : PnT) (psc : ScT) (tec spc : RowT) (gn ln cn kn sn dn : Nat) (mt mg : Int) (G LK LB K B KK KB SK SB DK DB SZ WH BO : Nat → Int) (cells slots : Nat) (hI : lwI gc kpc pac lac sc nc psc tec spc gn ln cn kn sn G LK LB K B KK KB SK SB) (hc : cells ≤ 60 + (rC kpc + rC pac + rC lac + rC tec + rC spc + sC sc + pC nc + sC psc)) (hs : slots ≤ 42000 + 8 * (rC kpc + rC pac + rC lac + rC tec + rC spc + sC sc + pC nc + sC psc)) (kk : lwK X E b i x g kp pa la s n ps m A) : gW X (nsO x g kp pa la s n te sp ++ (glW E g gc ++ (rowW E kp kpc ++ (rowW E pa pac ++ (rowW E la lac ++ (scW E s sc ++ (pnW E n ps nc ++ (scW E ps psc ++ (rowW E te tec ++ (rowW E sp spc ++ (mdO m A gn ln cn kn sn dn mt mg ++ (mG E A G ++ (mI E A 1 LK ++ (mL E A 2 LB ++ (mI E A 3 K ++ (mL E A 4 B ++ (mI E A 5 KK ++ (mL E A 6 KB ++ (mI E A 7 SK ++ (mL E A 8 SB ++ (mI E A 9 DK ++ (mL E A 10 DB ++ (mI E A 11 SZ ++ (mI E A 12 WH ++ (mI E A 13 BO))))))))))))))))))))))))) cells slots 242 [(0, .ref b), (1, .ref x), (2, .ref m), (3, .int (iI (i : Int)))] [] := by
  obtain ⟨hG, hKp, hPa, hLa, sk, nk, psk, hTe, spk⟩ := id hI
  obtain ⟨gk, g1, g2, g3⟩ := id hG
  obtain ⟨kpk, k1, k2, k3, k4⟩ := id hKp
  obtain ⟨pak, p1, p2, p3, p4⟩ := id hPa
  obtain ⟨lak, l1, l2, l3, l4⟩ := id hLa
  obtain ⟨tek, t1, t2, t3, t4⟩ := id hTe
  have gb1 := gk.1
  obtain ⟨⟨kpb1, kpb2, kpb3, kpb4⟩, -⟩ := id kpk
  obtain ⟨⟨pab1, pab2, pab3, pab4⟩, -⟩ := id pak
  obtain ⟨⟨lab1, lab2, lab3, lab4⟩, -⟩ := id lak
  obtain ⟨⟨teb1, teb2, teb3, teb4⟩, -⟩ := id tek
  obtain ⟨⟨spb1, spb2, spb3, spb4⟩, -⟩ := id spk
  obtain ⟨⟨sb1, sb2, sb3, sb4⟩, -⟩ := id sk
  obtain ⟨⟨nb1, nb2, nb3⟩, -⟩ := id nk
  obtain ⟨⟨psb1, psb2, psb3, psb4⟩, -⟩ := id psk
  refine g_aload_n (pc := 242) hX 1 d_LW_law_242 rfl rfl ?_
  refine g_iV (pc := 243) hX (c_NS_nodes l E x g kp pa la s n te sp tec tek) gy_NS_nodes gv_NS_nodes w_300 rfl (by decide) (by decide) [0, 28, 29, 30, 31] rfl (by decide +kernel) rfl rfl rfl _ rfl (Nat.le_of_ble_eq_true rfl) d_LW_law_243 (show _ + 0 ≤ 600000 by (first | omega | (dsimp only [rN, rC, rF, rG, rH, rA, sN, sC, sI, sD, sO, sA, uN, uF, pA, pC, pX, pL, pR, pK, pM] at *; omega))) (show _ + 0 ≤ 7302250 by (first | omega | (dsimp only [rN, rC, rF, rG, rH, rA, sN, sC, sI, sD, sO, sA, uN, uF, pA, pC, pX, pL, pR, pK, pM] at *; omega))) ?_
  refine g_aload_n (pc := 246) hX 2 d_LW_law_246 rfl rfl ?_
  refine g_iV (pc := 247) hX (c_MD_nodes l E m A gn ln cn kn sn dn mt mg) gy_MD_nodes gv_MD_nodes w_591 rfl (by decide) (by decide) [36] rfl (by decide +kernel) rfl rfl rfl _ rfl (Nat.le_of_ble_eq_true rfl) d_LW_law_247 (show _ + 0 ≤ 600000 by (first | omega | (dsimp only [rN, rC, rF, rG, rH, rA, sN, sC, sI, sD, sO, sA, uN, uF, pA, pC, pX, pL, pR, pK, pM] at *; omega))) (show _ + 0 ≤ 7302250 by (first | omega | (dsimp only [rN, rC, rF, rG, rH, rA, sN, sC, sI, sD, sO, sA, uN, uF, pA, pC, pX, pL, pR, pK, pM] at *; omega))) ?_
  refine g_icmp_eq (pc := 250) (tgt := 421) hX d_LW_law_250 (by decide) (by (first | omega | (dsimp only [rN, rC, rF, rG, rH, rA, sN, sC, sI, sD, sO, sA, uN, uF, pA, pC, pX, pL, pR, pK, pM] at *; omega))) (by (first | omega | (dsimp only [rN, rC, rF, rG, rH, rA, sN, sC, sI, sD, sO, sA, uN, uF, pA, pC, pX, pL, pR, pK, pM] at *; omega))) (fun c_9 => ?_) (fun c_9 => ?_)
  · exact kk te sp gc kpc pac lac sc nc psc tec spc gn ln cn kn sn dn mt mg G LK LB K B KK KB SK SB DK DB SZ WH BO _ _ ⟨hG, hKp, hPa, hLa, sk, nk, psk, hTe, spk⟩ (by (first | omega | (dsimp only [rN, rC, rF, rG, rH, rA, sN, sC, sI, sD, sO, sA, uN, uF, pA, pC, pX, pL, pR, pK, pM] at *; omega))) (by (first | omega | (dsimp only [rN, rC, rF, rG, rH, rA, sN, sC, sI, sD, sO, sA, uN, uF, pA, pC, pX, pL, pR, pK, pM] at *; omega)))
  · exact absurd (by (first | omega | (dsimp only [rN, rC, rF, rG, rH, rA, sN, sC, sI, sD, sO, sA, uN, uF, pA, pC, pX, pL, pR, pK, pM] at *; omega))) c_9
  
