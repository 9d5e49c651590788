set_option maxHeartbeats 4000000 in
set_option maxRecDepth 100000 in
theorem law_5 {X : gC} {l : Launch} {E : gE} {b L : Nat} {xs : Nat → Int32} (hX : gOK X code "NameScopeLaw" l E rm_LW 4) (hL : gL X b L xs) (i : Nat) (hi : i + 4 ≤ L ∧ L ≤ 2048) (x g kp pa la s n ps m : Nat) (A : Nat → Nat) (te sp : Nat) (gc : GlT) (kpc pac lac : RowT) (sc : ScT) (nc : PnT) (psc : ScT) (tec spc : RowT) (gn ln cn kn sn dn : Nat) (mt mg : Int) (G LK LB K B KK KB SK SB DK DB SZ WH BO : Nat → Int) (cells slots : Nat) (hI : lwI gc kpc pac lac sc nc psc tec spc gn ln cn kn sn G LK LB K B KK KB SK SB) (hc : cells ≤ 60 + (rC kpc + rC pac + rC lac + rC tec + rC spc + sC sc + pC nc + sC psc)) (hs : slots ≤ 42000 + 8 * (rC kpc + rC pac + rC lac + rC tec + rC spc + sC sc + pC nc + sC psc)) (kk : lwK X E b i x g kp pa la s n ps m A) : gW X (nsO x g kp pa la s n te sp ++ (glW E g gc ++ (rowW E kp kpc ++ (rowW E pa pac ++ (rowW E la lac ++ (scW E s sc ++ (pnW E n ps nc ++ (scW E ps psc ++ (rowW E te tec ++ (rowW E sp spc ++ (mdO m A gn ln cn kn sn dn mt mg ++ (mG E A G ++ (mI E A 1 LK ++ (mL E A 2 LB ++ (mI E A 3 K ++ (mL E A 4 B ++ (mI E A 5 KK ++ (mL E A 6 KB ++ (mI E A 7 SK ++ (mL E A 8 SB ++ (mI E A 9 DK ++ (mL E A 10 DB ++ (mI E A 11 SZ ++ (mI E A 12 WH ++ (mI E A 13 BO))))))))))))))))))))))))) cells slots 255 [(0, .ref b), (1, .ref x), (2, .ref m), (3, .int (iI (i : Int)))] [] := by
  obtain ⟨hG, hKp, hPa, hLa, sk, nk, psk, hTe, spk⟩ := id hI
  obtain ⟨gk, g1, g2, g3⟩ := id hG
  obtain ⟨kpk, k1, k2, k3, k4⟩ := id hKp
  obtain ⟨pak, p1, p2, p3, p4⟩ := id hPa
  obtain ⟨lak, l1, l2, l3, l4⟩ := id hLa
  obtain ⟨tek, t1, t2, t3, t4⟩ := id hTe
  have gb1 := gk.1
  obtain ⟨⟨kpb1, kpb2, kpb3, kpb4⟩, -⟩ := id kpk
  obtain ⟨⟨pab1, pab2, pab3, pab4⟩, -⟩ := id pak
  obtain ⟨⟨lab1, lab2, lab3, lab4⟩, -⟩ := id lak
  obtain ⟨⟨teb1, teb2, teb3, teb4⟩, -⟩ := id tek
  obtain ⟨⟨spb1, spb2, spb3, spb4⟩, -⟩ := id spk
  obtain ⟨⟨sb1, sb2, sb3, sb4⟩, -⟩ := id sk
  obtain ⟨⟨nb1, nb2, nb3⟩, -⟩ := id nk
  obtain ⟨⟨psb1, psb2, psb3, psb4⟩, -⟩ := id psk
  obtain ⟨σ, hm1, ho, hT, hq1, hq2, hq3, hq4, hq5, hq6⟩ := hTe.sig
  refine g_aload_n (pc := 255) hX 1 d_LW_law_255 rfl rfl ?_
  refine g_aload_n (pc := 256) hX 0 d_LW_law_256 rfl rfl ?_
  refine g_iload_n (pc := 257) hX 3 d_LW_law_257 rfl rfl ?_
  refine g_iconst (pc := 258) hX d_LW_law_258 ?_
  refine g_iadd (pc := 259) hX d_LW_law_259 ?_
  refine g_sldN (pc := 260) hX hL (k := (i + 1)) (by (first | omega | (dsimp only [rN, rC, rF, rG, rH, rA, sN, sC, sI, sD, sO, sA, uN, uF, pA, pC, pX, pL, pR, pK, pM] at *; omega))) d_LW_law_260 ?_
  refine g_aload_n (pc := 261) hX 0 d_LW_law_261 rfl rfl ?_
  refine g_iload_n (pc := 262) hX 3 d_LW_law_262 rfl rfl ?_
  refine g_iconst (pc := 263) hX d_LW_law_263 ?_
  refine g_iadd (pc := 264) hX d_LW_law_264 ?_
  refine g_sldN (pc := 265) hX hL (k := (i + 2)) (by (first | omega | (dsimp only [rN, rC, rF, rG, rH, rA, sN, sC, sI, sD, sO, sA, uN, uF, pA, pC, pX, pL, pR, pK, pM] at *; omega))) d_LW_law_265 ?_
  refine g_lV (pc := 266) hX (c_NS_node l E x g kp pa la s n te sp tec tek _ (yv_gin _ _) _ (yv_gin _ _)) gy_NS_node gv_NS_node w_304 rfl (by decide) (by decide) [0, 28, 29, 30, 31] rfl (by decide +kernel) rfl rfl rfl _ rfl (Nat.le_of_ble_eq_true rfl) d_LW_law_266 (show _ + 0 ≤ 600000 by (first | omega | (dsimp only [rN, rC, rF, rG, rH, rA, sN, sC, sI, sD, sO, sA, uN, uF, pA, pC, pX, pL, pR, pK, pM] at *; omega))) (show _ + 0 ≤ 7302250 by (first | omega | (dsimp only [rN, rC, rF, rG, rH, rA, sN, sC, sI, sD, sO, sA, uN, uF, pA, pC, pX, pL, pR, pK, pM] at *; omega))) ?_
  refine g_aload_n (pc := 269) hX 2 d_LW_law_269 rfl rfl ?_
  refine g_aload_n (pc := 270) hX 0 d_LW_law_270 rfl rfl ?_
  refine g_iload_n (pc := 271) hX 3 d_LW_law_271 rfl rfl ?_
  refine g_iconst (pc := 272) hX d_LW_law_272 ?_
  refine g_iadd (pc := 273) hX d_LW_law_273 ?_
  refine g_sldN (pc := 274) hX hL (k := (i + 1)) (by (first | omega | (dsimp only [rN, rC, rF, rG, rH, rA, sN, sC, sI, sD, sO, sA, uN, uF, pA, pC, pX, pL, pR, pK, pM] at *; omega))) d_LW_law_274 ?_
  refine g_aload_n (pc := 275) hX 0 d_LW_law_275 rfl rfl ?_
  refine g_iload_n (pc := 276) hX 3 d_LW_law_276 rfl rfl ?_
  refine g_iconst (pc := 277) hX d_LW_law_277 ?_
  refine g_iadd (pc := 278) hX d_LW_law_278 ?_
  refine g_sldN (pc := 279) hX hL (k := (i + 2)) (by (first | omega | (dsimp only [rN, rC, rF, rG, rH, rA, sN, sC, sI, sD, sO, sA, uN, uF, pA, pC, pX, pL, pR, pK, pM] at *; omega))) d_LW_law_279 ?_
  refine g_callV (pc := 280) hX (c_MD_node l E m A gn ln cn kn sn dn mt mg LK K B SZ WH _ (yv_gin _ _) _ (yv_gin _ _) σ ho) gy_MD_node gv_MD_node w_595 rfl (by decide) (by decide) [36, 38, 40, 41, 48, 49] rfl (by decide +kernel) rfl rfl rfl _ rfl (Nat.le_of_ble_eq_true rfl) d_LW_law_280 (show _ + 0 ≤ 600000 by (first | omega | (dsimp only [rN, rC, rF, rG, rH, rA, sN, sC, sI, sD, sO, sA, uN, uF, pA, pC, pX, pL, pR, pK, pM] at *; omega))) (show _ + 0 ≤ 7302250 by (first | omega | (dsimp only [rN, rC, rF, rG, rH, rA, sN, sC, sI, sD, sO, sA, uN, uF, pA, pC, pX, pL, pR, pK, pM] at *; omega))) (fun _ _ _ _ h => (fun h => by obtain ⟨_, _, _, h2, _⟩ := h; rw [h2]; exact Nat.le_of_ble_eq_true rfl) h) (fun v w dc_1 ds_1 hp => ?_)
  obtain ⟨S2, W2, rfl, rfl, -, rfl, rfl⟩ := hp
  refine g_wsP (nsO x g kp pa la s n te sp ++ (glW E g gc ++ (rowW E kp kpc ++ (rowW E pa pac ++ (rowW E la lac ++ (scW E s sc ++ (pnW E n ps nc ++ (scW E ps psc ++ (rowW E te tec ++ (rowW E sp spc ++ (mdO m A gn ln cn kn sn dn mt mg ++ (mG E A G ++ (mI E A 1 LK ++ (mL E A 2 LB ++ (mI E A 3 K ++ (mL E A 4 B ++ (mI E A 5 KK ++ (mL E A 6 KB ++ (mI E A 7 SK ++ (mL E A 8 SB ++ (mI E A 9 DK ++ (mL E A 10 DB ++ (mI E A 11 S2 ++ (mI E A 12 W2 ++ (mI E A 13 BO))))))))))))))))))))))))) rfl rfl ?_
  rw [node_eq hTe hm1 (yv xs (i + 1)) (yv xs (i + 2))]
  refine g_lcmp_eq (pc := 283) (tgt := 421) hX d_LW_law_283 d_LW_law_284 (by decide) (nodeR_gil tek _ _) (nodeR_gil tek _ _) (fun c_9 => ?_) (fun c_9 => ?_)
  · exact kk te sp gc kpc pac lac sc nc psc tec spc gn ln cn kn sn dn mt mg G LK LB K B KK KB SK SB DK DB S2 W2 BO _ _ ⟨hG, hKp, hPa, hLa, sk, nk, psk, hTe, spk⟩ (by (first | omega | (dsimp only [rN, rC, rF, rG, rH, rA, sN, sC, sI, sD, sO, sA, uN, uF, pA, pC, pX, pL, pR, pK, pM] at *; omega))) (by (first | omega | (dsimp only [rN, rC, rF, rG, rH, rA, sN, sC, sI, sD, sO, sA, uN, uF, pA, pC, pX, pL, pR, pK, pM] at *; omega)))
  · exact absurd (rfl) c_9
  

set_option maxHeartbeats 4000000 in
set_option maxRecDepth 100000 in
theorem law_6 {X : gC} {l : Launch} {E : gE} {b L : Nat} {xs : Nat → Int32} (hX : gOK X code "NameScopeLaw" l E rm_LW 4) (hL : gL X b L xs) (i : Nat) (hi : i + 4 ≤ L ∧ L ≤ 2048) (x g kp pa la s n ps m : Nat) (A : Nat → Nat) (te sp : Nat) (gc : GlT) (kpc pac lac : RowT) (sc : ScT) (nc : PnT) (psc : ScT) (tec spc : RowT) (gn ln cn kn sn dn : Nat) (mt mg : Int) (G LK LB K B KK KB SK SB DK DB SZ WH BO : Nat → Int) (cells slots : Nat) (hI : lwI gc kpc pac lac sc nc psc tec spc gn ln cn kn sn G LK LB K B KK KB SK SB) (hc : cells ≤ 60 + (rC kpc + rC pac + rC lac + rC tec + rC spc + sC sc + pC nc + sC psc)) (hs : slots ≤ 42000 + 8 * (rC kpc + rC pac + rC lac + rC tec + rC spc + sC sc + pC nc + sC psc)) (kk : lwK X E b i x g kp pa la s n ps m A) : gW X (nsO x g kp pa la s n te sp ++ (glW E g gc ++ (rowW E kp kpc ++ (rowW E pa pac ++ (rowW E la lac ++ (scW E s sc ++ (pnW E n ps nc ++ (scW E ps psc ++ (rowW E te tec ++ (rowW E sp spc ++ (mdO m A gn ln cn kn sn dn mt mg ++ (mG E A G ++ (mI E A 1 LK ++ (mL E A 2 LB ++ (mI E A 3 K ++ (mL E A 4 B ++ (mI E A 5 KK ++ (mL E A 6 KB ++ (mI E A 7 SK ++ (mL E A 8 SB ++ (mI E A 9 DK ++ (mL E A 10 DB ++ (mI E A 11 SZ ++ (mI E A 12 WH ++ (mI E A 13 BO))))))))))))))))))))))))) cells slots 289 [(0, .ref b), (1, .ref x), (2, .ref m), (3, .int (iI (i : Int)))] [] := by
  obtain ⟨hG, hKp, hPa, hLa, sk, nk, psk, hTe, spk⟩ := id hI
  obtain ⟨gk, g1, g2, g3⟩ := id hG
  obtain ⟨kpk, k1, k2, k3, k4⟩ := id hKp
  obtain ⟨pak, p1, p2, p3, p4⟩ := id hPa
  obtain ⟨lak, l1, l2, l3, l4⟩ := id hLa
  obtain ⟨tek, t1, t2, t3, t4⟩ := id hTe
  have gb1 := gk.1
  obtain ⟨⟨kpb1, kpb2, kpb3, kpb4⟩, -⟩ := id kpk
  obtain ⟨⟨pab1, pab2, pab3, pab4⟩, -⟩ := id pak
  obtain ⟨⟨lab1, lab2, lab3, lab4⟩, -⟩ := id lak
  obtain ⟨⟨teb1, teb2, teb3, teb4⟩, -⟩ := id tek
  obtain ⟨⟨spb1, spb2, spb3, spb4⟩, -⟩ := id spk
  obtain ⟨⟨sb1, sb2, sb3, sb4⟩, -⟩ := id sk
  obtain ⟨⟨nb1, nb2, nb3⟩, -⟩ := id nk
  obtain ⟨⟨psb1, psb2, psb3, psb4⟩, -⟩ := id psk
  obtain ⟨σ, hm1, ho, hT, hq1, hq2, hq3, hq4, hq5, hq6⟩ := hTe.sig
  obtain ⟨hue, hu1, hu2⟩ := uses_eq hTe ho (yv xs (i + 1))
  refine g_aload_n (pc := 289) hX 1 d_LW_law_289 rfl rfl ?_
  refine g_aload_n (pc := 290) hX 0 d_LW_law_290 rfl rfl ?_
  refine g_iload_n (pc := 291) hX 3 d_LW_law_291 rfl rfl ?_
  refine g_iconst (pc := 292) hX d_LW_law_292 ?_
  refine g_iadd (pc := 293) hX d_LW_law_293 ?_
  refine g_sldN (pc := 294) hX hL (k := (i + 1)) (by (first | omega | (dsimp only [rN, rC, rF, rG, rH, rA, sN, sC, sI, sD, sO, sA, uN, uF, pA, pC, pX, pL, pR, pK, pM] at *; omega))) d_LW_law_294 ?_
  refine g_callV (pc := 295) hX (c_NS_uses l E x g kp pa la s n te sp tec tek sc sk σ hm1 _ (yv_gin _ _)) gy_NS_uses gv_NS_uses w_311 rfl (by decide) (by decide) [0, 28, 29, 30, 31, 15, 16, 17, 18] rfl (by decide +kernel) rfl rfl rfl _ rfl (Nat.le_of_ble_eq_true rfl) d_LW_law_295 (show _ + 6000 ≤ 600000 by (first | omega | (dsimp only [rN, rC, rF, rG, rH, rA, sN, sC, sI, sD, sO, sA, uN, uF, pA, pC, pX, pL, pR, pK, pM] at *; omega))) (show _ + 36000 ≤ 7302250 by (first | omega | (dsimp only [rN, rC, rF, rG, rH, rA, sN, sC, sI, sD, sO, sA, uN, uF, pA, pC, pX, pL, pR, pK, pM] at *; omega))) (fun _ _ _ _ h => (fun h => by obtain ⟨_, _, h2, _⟩ := h; rw [h2]; exact Nat.le_of_ble_eq_true rfl) h) (fun v w dc_1 ds_1 hp => ?_)
  obtain ⟨ς, rfl, rfl, sk2, v1, v2, v3⟩ := hp
  obtain ⟨⟨y1, y2, y3, y4⟩, -⟩ := id sk2
  refine g_wsP (nsO x g kp pa la s n te sp ++ (glW E g gc ++ (rowW E kp kpc ++ (rowW E pa pac ++ (rowW E la lac ++ (scW E s ς ++ (pnW E n ps nc ++ (scW E ps psc ++ (rowW E te tec ++ (rowW E sp spc ++ (mdO m A gn ln cn kn sn dn mt mg ++ (mG E A G ++ (mI E A 1 LK ++ (mL E A 2 LB ++ (mI E A 3 K ++ (mL E A 4 B ++ (mI E A 5 KK ++ (mL E A 6 KB ++ (mI E A 7 SK ++ (mL E A 8 SB ++ (mI E A 9 DK ++ (mL E A 10 DB ++ (mI E A 11 SZ ++ (mI E A 12 WH ++ (mI E A 13 BO))))))))))))))))))))))))) rfl rfl ?_
  refine g_aload_n (pc := 298) hX 2 d_LW_law_298 rfl rfl ?_
  refine g_aload_n (pc := 299) hX 0 d_LW_law_299 rfl rfl ?_
  refine g_iload_n (pc := 300) hX 3 d_LW_law_300 rfl rfl ?_
  refine g_iconst (pc := 301) hX d_LW_law_301 ?_
  refine g_iadd (pc := 302) hX d_LW_law_302 ?_
  refine g_sldN (pc := 303) hX hL (k := (i + 1)) (by (first | omega | (dsimp only [rN, rC, rF, rG, rH, rA, sN, sC, sI, sD, sO, sA, uN, uF, pA, pC, pX, pL, pR, pK, pM] at *; omega))) d_LW_law_303 ?_
  refine g_callV (pc := 304) hX (c_MD_uses l E m A gn ln cn kn sn dn mt mg LK K B SZ WH _ (yv_gin _ _) σ ho (fun j hj => by have := hq1 j hj; (first | omega | (dsimp only [rN, rC, rF, rG, rH, rA, sN, sC, sI, sD, sO, sA, uN, uF, pA, pC, pX, pL, pR, pK, pM] at *; omega)))) gy_MD_uses gv_MD_uses w_600 rfl (by decide) (by decide) [36, 38, 40, 41, 48, 49] rfl (by decide +kernel) rfl rfl rfl _ rfl (Nat.le_of_ble_eq_true rfl) d_LW_law_304 (show _ + 0 ≤ 600000 by (first | omega | (dsimp only [rN, rC, rF, rG, rH, rA, sN, sC, sI, sD, sO, sA, uN, uF, pA, pC, pX, pL, pR, pK, pM] at *; omega))) (show _ + 0 ≤ 7302250 by (first | omega | (dsimp only [rN, rC, rF, rG, rH, rA, sN, sC, sI, sD, sO, sA, uN, uF, pA, pC, pX, pL, pR, pK, pM] at *; omega))) (fun _ _ _ _ h => (fun h => by obtain ⟨_, _, _, h2, _⟩ := h; rw [h2]; exact Nat.le_of_ble_eq_true rfl) h) (fun v w dc_2 ds_2 hp => ?_)
  obtain ⟨S2, W2, rfl, rfl, -, rfl, rfl⟩ := hp
  refine g_wsP (nsO x g kp pa la s n te sp ++ (glW E g gc ++ (rowW E kp kpc ++ (rowW E pa pac ++ (rowW E la lac ++ (scW E s ς ++ (pnW E n ps nc ++ (scW E ps psc ++ (rowW E te tec ++ (rowW E sp spc ++ (mdO m A gn ln cn kn sn dn mt mg ++ (mG E A G ++ (mI E A 1 LK ++ (mL E A 2 LB ++ (mI E A 3 K ++ (mL E A 4 B ++ (mI E A 5 KK ++ (mL E A 6 KB ++ (mI E A 7 SK ++ (mL E A 8 SB ++ (mI E A 9 DK ++ (mL E A 10 DB ++ (mI E A 11 S2 ++ (mI E A 12 W2 ++ (mI E A 13 BO))))))))))))))))))))))))) rfl rfl ?_
  rw [hue]
  refine g_icmp_eq (pc := 307) (tgt := 421) hX d_LW_law_307 (by decide) (by (first | omega | (dsimp only [rN, rC, rF, rG, rH, rA, sN, sC, sI, sD, sO, sA, uN, uF, pA, pC, pX, pL, pR, pK, pM] at *; omega))) (by (first | omega | (dsimp only [rN, rC, rF, rG, rH, rA, sN, sC, sI, sD, sO, sA, uN, uF, pA, pC, pX, pL, pR, pK, pM] at *; omega))) (fun c_9 => ?_) (fun c_9 => ?_)
  · exact kk te sp gc kpc pac lac ς nc psc tec spc gn ln cn kn sn dn mt mg G LK LB K B KK KB SK SB DK DB S2 W2 BO _ _ ⟨hG, hKp, hPa, hLa, sk2, nk, psk, hTe, spk⟩ (by (first | omega | (dsimp only [rN, rC, rF, rG, rH, rA, sN, sC, sI, sD, sO, sA, uN, uF, pA, pC, pX, pL, pR, pK, pM] at *; omega))) (by (first | omega | (dsimp only [rN, rC, rF, rG, rH, rA, sN, sC, sI, sD, sO, sA, uN, uF, pA, pC, pX, pL, pR, pK, pM] at *; omega)))
  · exact absurd (rfl) c_9
  

set_option maxHeartbeats 4000000 in
set_option maxRecDepth 100000 in
theorem law_9 {X : gC} {l : Launch} {E : gE} {b L : Nat} {xs : Nat → Int32} (hX : gOK X code "NameScopeLaw" l E rm_LW 4) (hL : gL X b L xs) (i : Nat) (hi : i + 4 ≤ L ∧ L ≤ 2048) (x g kp pa la s n ps m : Nat) (A : Nat → Nat) (te sp : Nat) (gc : GlT) (kpc pac lac : RowT) (sc : ScT) (nc : PnT) (psc : ScT) (tec spc : RowT) (gn ln cn kn sn dn : Nat) (mt mg : Int) (G LK LB K B KK KB SK SB DK DB SZ WH BO : Nat → Int) (cells slots : Nat) (hI : lwI gc kpc pac lac sc nc psc tec spc gn ln cn kn sn G LK LB K B KK KB SK SB) (hc : cells ≤ 60 + (rC kpc + rC pac + rC lac + rC tec + rC spc + sC sc + pC nc + sC psc)) (hs : slots ≤ 42000 + 8 * (rC kpc + rC pac + rC lac + rC tec + rC spc + sC sc + pC nc + sC psc)) (kk : lwK X E b i x g kp pa la s n ps m A) : gW X (nsO x g kp pa la s n te sp ++ (glW E g gc ++ (rowW E kp kpc ++ (rowW E pa pac ++ (rowW E la lac ++ (scW E s sc ++ (pnW E n ps nc ++ (scW E ps psc ++ (rowW E te tec ++ (rowW E sp spc ++ (mdO m A gn ln cn kn sn dn mt mg ++ (mG E A G ++ (mI E A 1 LK ++ (mL E A 2 LB ++ (mI E A 3 K ++ (mL E A 4 B ++ (mI E A 5 KK ++ (mL E A 6 KB ++ (mI E A 7 SK ++ (mL E A 8 SB ++ (mI E A 9 DK ++ (mL E A 10 DB ++ (mI E A 11 SZ ++ (mI E A 12 WH ++ (mI E A 13 BO))))))))))))))))))))))))) cells slots 348 [(0, .ref b), (1, .ref x), (2, .ref m), (3, .int (iI (i : Int)))] [] := by
  obtain ⟨hG, hKp, hPa, hLa, sk, nk, psk, hTe, spk⟩ := id hI
  obtain ⟨gk, g1, g2, g3⟩ := id hG
  obtain ⟨kpk, k1, k2, k3, k4⟩ := id hKp
  obtain ⟨pak, p1, p2, p3, p4⟩ := id hPa
  obtain ⟨lak, l1, l2, l3, l4⟩ := id hLa
  obtain ⟨tek, t1, t2, t3, t4⟩ := id hTe
  have gb1 := gk.1
  obtain ⟨⟨kpb1, kpb2, kpb3, kpb4⟩, -⟩ := id kpk
  obtain ⟨⟨pab1, pab2, pab3, pab4⟩, -⟩ := id pak
  obtain ⟨⟨lab1, lab2, lab3, lab4⟩, -⟩ := id lak
  obtain ⟨⟨teb1, teb2, teb3, teb4⟩, -⟩ := id tek
  obtain ⟨⟨spb1, spb2, spb3, spb4⟩, -⟩ := id spk
  obtain ⟨⟨sb1, sb2, sb3, sb4⟩, -⟩ := id sk
  obtain ⟨⟨nb1, nb2, nb3⟩, -⟩ := id nk
  obtain ⟨⟨psb1, psb2, psb3, psb4⟩, -⟩ := id psk
  refine g_aload_n (pc := 348) hX 1 d_LW_law_348 rfl rfl ?_
  refine g_aload_n (pc := 349) hX 0 d_LW_law_349 rfl rfl ?_
  refine g_iload_n (pc := 350) hX 3 d_LW_law_350 rfl rfl ?_
  refine g_iconst (pc := 351) hX d_LW_law_351 ?_
  refine g_iadd (pc := 352) hX d_LW_law_352 ?_
  refine g_sldN (pc := 353) hX hL (k := (i + 1)) (by (first | omega | (dsimp only [rN, rC, rF, rG, rH, rA, sN, sC, sI, sD, sO, sA, uN, uF, pA, pC, pX, pL, pR, pK, pM] at *; omega))) d_LW_law_353 ?_
  refine g_aload_n (pc := 354) hX 0 d_LW_law_354 rfl rfl ?_
  refine g_iload_n (pc := 355) hX 3 d_LW_law_355 rfl rfl ?_
  refine g_iconst (pc := 356) hX d_LW_law_356 ?_
  refine g_iadd (pc := 357) hX d_LW_law_357 ?_
  refine g_sldN (pc := 358) hX hL (k := (i + 2)) (by (first | omega | (dsimp only [rN, rC, rF, rG, rH, rA, sN, sC, sI, sD, sO, sA, uN, uF, pA, pC, pX, pL, pR, pK, pM] at *; omega))) d_LW_law_358 ?_
  refine g_lV (pc := 359) hX (c_NS_written l E x g kp pa la s n te sp pac pak _ (yv_gin _ _) _ (yv_gin _ _)) gy_NS_written gv_NS_written w_432 rfl (by decide) (by decide) [0, 7, 8, 9, 10] rfl (by decide +kernel) rfl rfl rfl _ rfl (Nat.le_of_ble_eq_true rfl) d_LW_law_359 (show _ + 0 ≤ 600000 by (first | omega | (dsimp only [rN, rC, rF, rG, rH, rA, sN, sC, sI, sD, sO, sA, uN, uF, pA, pC, pX, pL, pR, pK, pM] at *; omega))) (show _ + 0 ≤ 7302250 by (first | omega | (dsimp only [rN, rC, rF, rG, rH, rA, sN, sC, sI, sD, sO, sA, uN, uF, pA, pC, pX, pL, pR, pK, pM] at *; omega))) ?_
  refine g_aload_n (pc := 362) hX 2 d_LW_law_362 rfl rfl ?_
  refine g_aload_n (pc := 363) hX 0 d_LW_law_363 rfl rfl ?_
  refine g_iload_n (pc := 364) hX 3 d_LW_law_364 rfl rfl ?_
  refine g_iconst (pc := 365) hX d_LW_law_365 ?_
  refine g_iadd (pc := 366) hX d_LW_law_366 ?_
  refine g_sldN (pc := 367) hX hL (k := (i + 1)) (by (first | omega | (dsimp only [rN, rC, rF, rG, rH, rA, sN, sC, sI, sD, sO, sA, uN, uF, pA, pC, pX, pL, pR, pK, pM] at *; omega))) d_LW_law_367 ?_
  refine g_aload_n (pc := 368) hX 0 d_LW_law_368 rfl rfl ?_
  refine g_iload_n (pc := 369) hX 3 d_LW_law_369 rfl rfl ?_
  refine g_iconst (pc := 370) hX d_LW_law_370 ?_
  refine g_iadd (pc := 371) hX d_LW_law_371 ?_
  refine g_sldN (pc := 372) hX hL (k := (i + 2)) (by (first | omega | (dsimp only [rN, rC, rF, rG, rH, rA, sN, sC, sI, sD, sO, sA, uN, uF, pA, pC, pX, pL, pR, pK, pM] at *; omega))) d_LW_law_372 ?_
  refine g_lV (pc := 373) hX (c_MD_written l E m A gn ln cn kn sn dn mt mg SK SB _ (yv_gin _ _) _ (yv_gin _ _) (by (first | omega | (dsimp only [rN, rC, rF, rG, rH, rA, sN, sC, sI, sD, sO, sA, uN, uF, pA, pC, pX, pL, pR, pK, pM] at *; omega))) (fun j hj => by have := (p4 j hj).1; (first | omega | (dsimp only [rN, rC, rF, rG, rH, rA, sN, sC, sI, sD, sO, sA, uN, uF, pA, pC, pX, pL, pR, pK, pM] at *; omega)))) gy_MD_written gv_MD_written w_633 rfl (by decide) (by decide) [36, 44, 45] rfl (by decide +kernel) rfl rfl rfl _ rfl (Nat.le_of_ble_eq_true rfl) d_LW_law_373 (show _ + 0 ≤ 600000 by (first | omega | (dsimp only [rN, rC, rF, rG, rH, rA, sN, sC, sI, sD, sO, sA, uN, uF, pA, pC, pX, pL, pR, pK, pM] at *; omega))) (show _ + 0 ≤ 7302250 by (first | omega | (dsimp only [rN, rC, rF, rG, rH, rA, sN, sC, sI, sD, sO, sA, uN, uF, pA, pC, pX, pL, pR, pK, pM] at *; omega))) ?_
  rw [wrt_eq hPa (yv xs (i + 1)) (yv xs (i + 2))]
  refine g_lcmp_eq (pc := 376) (tgt := 421) hX d_LW_law_376 d_LW_law_377 (by decide) (wrtR_gil pak _ _) (wrtR_gil pak _ _) (fun c_9 => ?_) (fun c_9 => ?_)
  · exact kk te sp gc kpc pac lac sc nc psc tec spc gn ln cn kn sn dn mt mg G LK LB K B KK KB SK SB DK DB SZ WH BO _ _ ⟨hG, hKp, hPa, hLa, sk, nk, psk, hTe, spk⟩ (by (first | omega | (dsimp only [rN, rC, rF, rG, rH, rA, sN, sC, sI, sD, sO, sA, uN, uF, pA, pC, pX, pL, pR, pK, pM] at *; omega))) (by (first | omega | (dsimp only [rN, rC, rF, rG, rH, rA, sN, sC, sI, sD, sO, sA, uN, uF, pA, pC, pX, pL, pR, pK, pM] at *; omega)))
  · exact absurd (rfl) c_9
  

set_option maxHeartbeats 4000000 in
set_option maxRecDepth 100000 in
theorem law_10 {X : gC} {l : Launch} {E : gE} {b L : Nat} {xs : Nat → Int32} (hX : gOK X code "NameScopeLaw" l E rm_LW 4) (hL : gL X b L xs) (i : Nat) (hi : i + 4 ≤ L ∧ L ≤ 2048) (x g kp pa la s n ps m : Nat) (A : Nat → Nat) (te sp : Nat) (gc : GlT) (kpc pac lac : RowT) (sc : ScT) (nc : PnT) (psc : ScT) (tec spc : RowT) (gn ln cn kn sn dn : Nat) (mt mg : Int) (G LK LB K B KK KB SK SB DK DB SZ WH BO : Nat → Int) (cells slots : Nat) (hI : lwI gc kpc pac lac sc nc psc tec spc gn ln cn kn sn G LK LB K B KK KB SK SB) (hc : cells ≤ 60 + (rC kpc + rC pac + rC lac + rC tec + rC spc + sC sc + pC nc + sC psc)) (hs : slots ≤ 42000 + 8 * (rC kpc + rC pac + rC lac + rC tec + rC spc + sC sc + pC nc + sC psc)) (kk : lwK X E b i x g kp pa la s n ps m A) : gW X (nsO x g kp pa la s n te sp ++ (glW E g gc ++ (rowW E kp kpc ++ (rowW E pa pac ++ (rowW E la lac ++ (scW E s sc ++ (pnW E n ps nc ++ (scW E ps psc ++ (rowW E te tec ++ (rowW E sp spc ++ (mdO m A gn ln cn kn sn dn mt mg ++ (mG E A G ++ (mI E A 1 LK ++ (mL E A 2 LB ++ (mI E A 3 K ++ (mL E A 4 B ++ (mI E A 5 KK ++ (mL E A 6 KB ++ (mI E A 7 SK ++ (mL E A 8 SB ++ (mI E A 9 DK ++ (mL E A 10 DB ++ (mI E A 11 SZ ++ (mI E A 12 WH ++ (mI E A 13 BO))))))))))))))))))))))))) cells slots 382 [(0, .ref b), (1, .ref x), (2, .ref m), (3, .int (iI (i : Int)))] [] := by
  obtain ⟨hG, hKp, hPa, hLa, sk, nk, psk, hTe, spk⟩ := id hI
  obtain ⟨gk, g1, g2, g3⟩ := id hG
  obtain ⟨kpk, k1, k2, k3, k4⟩ := id hKp
  obtain ⟨pak, p1, p2, p3, p4⟩ := id hPa
  obtain ⟨lak, l1, l2, l3, l4⟩ := id hLa
  obtain ⟨tek, t1, t2, t3, t4⟩ := id hTe
  have gb1 := gk.1
  obtain ⟨⟨kpb1, kpb2, kpb3, kpb4⟩, -⟩ := id kpk
  obtain ⟨⟨pab1, pab2, pab3, pab4⟩, -⟩ := id pak
  obtain ⟨⟨lab1, lab2, lab3, lab4⟩, -⟩ := id lak
  obtain ⟨⟨teb1, teb2, teb3, teb4⟩, -⟩ := id tek
  obtain ⟨⟨spb1, spb2, spb3, spb4⟩, -⟩ := id spk
  obtain ⟨⟨sb1, sb2, sb3, sb4⟩, -⟩ := id sk
  obtain ⟨⟨nb1, nb2, nb3⟩, -⟩ := id nk
  obtain ⟨⟨psb1, psb2, psb3, psb4⟩, -⟩ := id psk
  refine g_aload_n (pc := 382) hX 1 d_LW_law_382 rfl rfl ?_
  refine g_callV (pc := 383) hX (c_NS_again l E x g kp pa la s n te sp lac lak pac pak) gy_NS_again gv_NS_again w_436 rfl (by decide) (by decide) [0, 11, 12, 13, 14, 7, 8, 9, 10] rfl (by decide +kernel) rfl rfl rfl _ rfl (Nat.le_of_ble_eq_true rfl) d_LW_law_383 (show _ + 6000 ≤ 600000 by (first | omega | (dsimp only [rN, rC, rF, rG, rH, rA, sN, sC, sI, sD, sO, sA, uN, uF, pA, pC, pX, pL, pR, pK, pM] at *; omega))) (show _ + 36000 ≤ 7302250 by (first | omega | (dsimp only [rN, rC, rF, rG, rH, rA, sN, sC, sI, sD, sO, sA, uN, uF, pA, pC, pX, pL, pR, pK, pM] at *; omega))) (fun _ _ _ _ h => (fun h => by obtain ⟨_, _, h2, _⟩ := h; rw [h2]; exact Nat.le_of_ble_eq_true rfl) h) (fun v w dc_1 ds_1 hp => ?_)
  obtain ⟨ρ, rfl, rfl, rk2, a1, a2, v1, v2, v3⟩ := hp
  obtain ⟨⟨y1, y2, y3, y4⟩, -⟩ := id rk2
  refine g_wsP (nsO x g kp pa la s n te sp ++ (glW E g gc ++ (rowW E kp kpc ++ (rowW E pa pac ++ (rowW E la ρ ++ (scW E s sc ++ (pnW E n ps nc ++ (scW E ps psc ++ (rowW E te tec ++ (rowW E sp spc ++ (mdO m A gn ln cn kn sn dn mt mg ++ (mG E A G ++ (mI E A 1 LK ++ (mL E A 2 LB ++ (mI E A 3 K ++ (mL E A 4 B ++ (mI E A 5 KK ++ (mL E A 6 KB ++ (mI E A 7 SK ++ (mL E A 8 SB ++ (mI E A 9 DK ++ (mL E A 10 DB ++ (mI E A 11 SZ ++ (mI E A 12 WH ++ (mI E A 13 BO))))))))))))))))))))))))) rfl rfl ?_
  refine g_aload_n (pc := 386) hX 2 d_LW_law_386 rfl rfl ?_
  refine g_callV (pc := 387) hX (c_MD_again l E m A gn ln cn kn sn dn mt mg LK LB SK SB (by (first | omega | (dsimp only [rN, rC, rF, rG, rH, rA, sN, sC, sI, sD, sO, sA, uN, uF, pA, pC, pX, pL, pR, pK, pM] at *; omega)))) gy_MD_again gv_MD_again w_637 rfl (by decide) (by decide) [36, 38, 39, 44, 45] rfl (by decide +kernel) rfl rfl rfl _ rfl (Nat.le_of_ble_eq_true rfl) d_LW_law_387 (show _ + 0 ≤ 600000 by (first | omega | (dsimp only [rN, rC, rF, rG, rH, rA, sN, sC, sI, sD, sO, sA, uN, uF, pA, pC, pX, pL, pR, pK, pM] at *; omega))) (show _ + 0 ≤ 7302250 by (first | omega | (dsimp only [rN, rC, rF, rG, rH, rA, sN, sC, sI, sD, sO, sA, uN, uF, pA, pC, pX, pL, pR, pK, pM] at *; omega))) (fun _ _ _ _ h => (fun h => by obtain ⟨_, _, _, h2, _⟩ := h; rw [h2]; exact Nat.le_of_ble_eq_true rfl) h) (fun v w dc_2 ds_2 hp => ?_)
  obtain ⟨F2, Q2, rfl, rfl, hcp, rfl, rfl⟩ := hp
  refine g_wsP (nsO x g kp pa la s n te sp ++ (glW E g gc ++ (rowW E kp kpc ++ (rowW E pa pac ++ (rowW E la ρ ++ (scW E s sc ++ (pnW E n ps nc ++ (scW E ps psc ++ (rowW E te tec ++ (rowW E sp spc ++ (mdO m A gn sn cn kn sn dn mt mg ++ (mG E A G ++ (mI E A 1 F2 ++ (mL E A 2 Q2 ++ (mI E A 3 K ++ (mL E A 4 B ++ (mI E A 5 KK ++ (mL E A 6 KB ++ (mI E A 7 SK ++ (mL E A 8 SB ++ (mI E A 9 DK ++ (mL E A 10 DB ++ (mI E A 11 SZ ++ (mI E A 12 WH ++ (mI E A 13 BO))))))))))))))))))))))))) rfl rfl ?_
  refine g_icmp_eq (pc := 390) (tgt := 421) hX d_LW_law_390 (by decide) (by (first | omega | (dsimp only [rN, rC, rF, rG, rH, rA, sN, sC, sI, sD, sO, sA, uN, uF, pA, pC, pX, pL, pR, pK, pM] at *; omega))) (by (first | omega | (dsimp only [rN, rC, rF, rG, rH, rA, sN, sC, sI, sD, sO, sA, uN, uF, pA, pC, pX, pL, pR, pK, pM] at *; omega))) (fun c_9 => ?_) (fun c_9 => ?_)
  · exact kk te sp gc kpc pac ρ sc nc psc tec spc gn sn cn kn sn dn mt mg G F2 Q2 K B KK KB SK SB DK DB SZ WH BO _ _ ⟨hG, hKp, hPa, (hPa.cp rk2 a1 hcp), sk, nk, psk, hTe, spk⟩ (by (first | omega | (dsimp only [rN, rC, rF, rG, rH, rA, sN, sC, sI, sD, sO, sA, uN, uF, pA, pC, pX, pL, pR, pK, pM] at *; omega))) (by (first | omega | (dsimp only [rN, rC, rF, rG, rH, rA, sN, sC, sI, sD, sO, sA, uN, uF, pA, pC, pX, pL, pR, pK, pM] at *; omega)))
  · exact absurd (by (first | omega | (dsimp only [rN, rC, rF, rG, rH, rA, sN, sC, sI, sD, sO, sA, uN, uF, pA, pC, pX, pL, pR, pK, pM] at *; omega))) c_9
  

set_option maxHeartbeats 4000000 in
set_option maxRecDepth 100000 in
theorem law_11 {X : gC} {l : Launch} {E : gE} {b L : Nat} {xs : Nat → Int32} (hX : gOK X code "NameScopeLaw" l E rm_LW 4) (hL : gL X b L xs) (i : Nat) (hi : i + 4 ≤ L ∧ L ≤ 2048) (x g kp pa la s n ps m : Nat) (A : Nat → Nat) (te sp : Nat) (gc : GlT) (kpc pac lac : RowT) (sc : ScT) (nc : PnT) (psc : ScT) (tec spc : RowT) (gn ln cn kn sn dn : Nat) (mt mg : Int) (G LK LB K B KK KB SK SB DK DB SZ WH BO : Nat → Int) (cells slots : Nat) (hI : lwI gc kpc pac lac sc nc psc tec spc gn ln cn kn sn G LK LB K B KK KB SK SB) (hc : cells ≤ 60 + (rC kpc + rC pac + rC lac + rC tec + rC spc + sC sc + pC nc + sC psc)) (hs : slots ≤ 42000 + 8 * (rC kpc + rC pac + rC lac + rC tec + rC spc + sC sc + pC nc + sC psc)) (kk : lwK X E b i x g kp pa la s n ps m A) : gW X (nsO x g kp pa la s n te sp ++ (glW E g gc ++ (rowW E kp kpc ++ (rowW E pa pac ++ (rowW E la lac ++ (scW E s sc ++ (pnW E n ps nc ++ (scW E ps psc ++ (rowW E te tec ++ (rowW E sp spc ++ (mdO m A gn ln cn kn sn dn mt mg ++ (mG E A G ++ (mI E A 1 LK ++ (mL E A 2 LB ++ (mI E A 3 K ++ (mL E A 4 B ++ (mI E A 5 KK ++ (mL E A 6 KB ++ (mI E A 7 SK ++ (mL E A 8 SB ++ (mI E A 9 DK ++ (mL E A 10 DB ++ (mI E A 11 SZ ++ (mI E A 12 WH ++ (mI E A 13 BO))))))))))))))))))))))))) cells slots 395 [(0, .ref b), (1, .ref x), (2, .ref m), (3, .int (iI (i : Int)))] [] := by
  obtain ⟨hG, hKp, hPa, hLa, sk, nk, psk, hTe, spk⟩ := id hI
  obtain ⟨gk, g1, g2, g3⟩ := id hG
  obtain ⟨kpk, k1, k2, k3, k4⟩ := id hKp
  obtain ⟨pak, p1, p2, p3, p4⟩ := id hPa
  obtain ⟨lak, l1, l2, l3, l4⟩ := id hLa
  obtain ⟨tek, t1, t2, t3, t4⟩ := id hTe
  have gb1 := gk.1
  obtain ⟨⟨kpb1, kpb2, kpb3, kpb4⟩, -⟩ := id kpk
  obtain ⟨⟨pab1, pab2, pab3, pab4⟩, -⟩ := id pak
  obtain ⟨⟨lab1, lab2, lab3, lab4⟩, -⟩ := id lak
  obtain ⟨⟨teb1, teb2, teb3, teb4⟩, -⟩ := id tek
  obtain ⟨⟨spb1, spb2, spb3, spb4⟩, -⟩ := id spk
  obtain ⟨⟨sb1, sb2, sb3, sb4⟩, -⟩ := id sk
  obtain ⟨⟨nb1, nb2, nb3⟩, -⟩ := id nk
  obtain ⟨⟨psb1, psb2, psb3, psb4⟩, -⟩ := id psk
  refine g_aload_n (pc := 395) hX 1 d_LW_law_395 rfl rfl ?_
  refine g_callV (pc := 396) hX (c_NS_keep l E x g kp pa la s n te sp kpc kpk tec tek) gy_NS_keep gv_NS_keep w_445 rfl (by decide) (by decide) [0, 3, 4, 5, 6, 28, 29, 30, 31] rfl (by decide +kernel) rfl rfl rfl _ rfl (Nat.le_of_ble_eq_true rfl) d_LW_law_396 (show _ + 6000 ≤ 600000 by (first | omega | (dsimp only [rN, rC, rF, rG, rH, rA, sN, sC, sI, sD, sO, sA, uN, uF, pA, pC, pX, pL, pR, pK, pM] at *; omega))) (show _ + 36000 ≤ 7302250 by (first | omega | (dsimp only [rN, rC, rF, rG, rH, rA, sN, sC, sI, sD, sO, sA, uN, uF, pA, pC, pX, pL, pR, pK, pM] at *; omega))) (fun _ _ _ _ h => (fun h => by obtain ⟨_, _, h2, _⟩ := h; rw [h2]; exact Nat.le_of_ble_eq_true rfl) h) (fun v w dc_1 ds_1 hp => ?_)
  obtain ⟨ρ, rfl, rfl, rk2, a1, a2, v1, v2, v3⟩ := hp
  obtain ⟨⟨y1, y2, y3, y4⟩, -⟩ := id rk2
  refine g_wsP (nsO x g kp pa la s n te sp ++ (glW E g gc ++ (rowW E kp ρ ++ (rowW E pa pac ++ (rowW E la lac ++ (scW E s sc ++ (pnW E n ps nc ++ (scW E ps psc ++ (rowW E te tec ++ (rowW E sp spc ++ (mdO m A gn ln cn kn sn dn mt mg ++ (mG E A G ++ (mI E A 1 LK ++ (mL E A 2 LB ++ (mI E A 3 K ++ (mL E A 4 B ++ (mI E A 5 KK ++ (mL E A 6 KB ++ (mI E A 7 SK ++ (mL E A 8 SB ++ (mI E A 9 DK ++ (mL E A 10 DB ++ (mI E A 11 SZ ++ (mI E A 12 WH ++ (mI E A 13 BO))))))))))))))))))))))))) rfl rfl ?_
  refine g_aload_n (pc := 399) hX 2 d_LW_law_399 rfl rfl ?_
  refine g_callV (pc := 400) hX (c_MD_keep l E m A gn ln cn kn sn dn mt mg K B KK KB (by (first | omega | (dsimp only [rN, rC, rF, rG, rH, rA, sN, sC, sI, sD, sO, sA, uN, uF, pA, pC, pX, pL, pR, pK, pM] at *; omega)))) gy_MD_keep gv_MD_keep w_641 rfl (by decide) (by decide) [36, 40, 41, 42, 43] rfl (by decide +kernel) rfl rfl rfl _ rfl (Nat.le_of_ble_eq_true rfl) d_LW_law_400 (show _ + 0 ≤ 600000 by (first | omega | (dsimp only [rN, rC, rF, rG, rH, rA, sN, sC, sI, sD, sO, sA, uN, uF, pA, pC, pX, pL, pR, pK, pM] at *; omega))) (show _ + 0 ≤ 7302250 by (first | omega | (dsimp only [rN, rC, rF, rG, rH, rA, sN, sC, sI, sD, sO, sA, uN, uF, pA, pC, pX, pL, pR, pK, pM] at *; omega))) (fun _ _ _ _ h => (fun h => by obtain ⟨_, _, _, h2, _⟩ := h; rw [h2]; exact Nat.le_of_ble_eq_true rfl) h) (fun v w dc_2 ds_2 hp => ?_)
  obtain ⟨F2, Q2, rfl, rfl, hcp, rfl, rfl⟩ := hp
  refine g_wsP (nsO x g kp pa la s n te sp ++ (glW E g gc ++ (rowW E kp ρ ++ (rowW E pa pac ++ (rowW E la lac ++ (scW E s sc ++ (pnW E n ps nc ++ (scW E ps psc ++ (rowW E te tec ++ (rowW E sp spc ++ (mdO m A gn ln cn cn sn dn mt mg ++ (mG E A G ++ (mI E A 1 LK ++ (mL E A 2 LB ++ (mI E A 3 K ++ (mL E A 4 B ++ (mI E A 5 F2 ++ (mL E A 6 Q2 ++ (mI E A 7 SK ++ (mL E A 8 SB ++ (mI E A 9 DK ++ (mL E A 10 DB ++ (mI E A 11 SZ ++ (mI E A 12 WH ++ (mI E A 13 BO))))))))))))))))))))))))) rfl rfl ?_
  refine g_icmp_eq (pc := 403) (tgt := 421) hX d_LW_law_403 (by decide) (by (first | omega | (dsimp only [rN, rC, rF, rG, rH, rA, sN, sC, sI, sD, sO, sA, uN, uF, pA, pC, pX, pL, pR, pK, pM] at *; omega))) (by (first | omega | (dsimp only [rN, rC, rF, rG, rH, rA, sN, sC, sI, sD, sO, sA, uN, uF, pA, pC, pX, pL, pR, pK, pM] at *; omega))) (fun c_9 => ?_) (fun c_9 => ?_)
  · exact kk te sp gc ρ pac lac sc nc psc tec spc gn ln cn cn sn dn mt mg G LK LB K B F2 Q2 SK SB DK DB SZ WH BO _ _ ⟨hG, (iK.cp hTe rk2 a1 hcp), hPa, hLa, sk, nk, psk, hTe, spk⟩ (by (first | omega | (dsimp only [rN, rC, rF, rG, rH, rA, sN, sC, sI, sD, sO, sA, uN, uF, pA, pC, pX, pL, pR, pK, pM] at *; omega))) (by (first | omega | (dsimp only [rN, rC, rF, rG, rH, rA, sN, sC, sI, sD, sO, sA, uN, uF, pA, pC, pX, pL, pR, pK, pM] at *; omega)))
  · exact absurd (by (first | omega | (dsimp only [rN, rC, rF, rG, rH, rA, sN, sC, sI, sD, sO, sA, uN, uF, pA, pC, pX, pL, pR, pK, pM] at *; omega))) c_9
  

set_option maxHeartbeats 4000000 in
set_option maxRecDepth 100000 in
theorem law_12 {X : gC} {l : Launch} {E : gE} {b L : Nat} {xs : Nat → Int32} (hX : gOK X code "NameScopeLaw" l E rm_LW 4) (hL : gL X b L xs) (i : Nat) (hi : i + 4 ≤ L ∧ L ≤ 2048) (x g kp pa la s n ps m : Nat) (A : Nat → Nat) (te sp : Nat) (gc : GlT) (kpc pac lac : RowT) (sc : ScT) (nc : PnT) (psc : ScT) (tec spc : RowT) (gn ln cn kn sn dn : Nat) (mt mg : Int) (G LK LB K B KK KB SK SB DK DB SZ WH BO : Nat → Int) (cells slots : Nat) (hI : lwI gc kpc pac lac sc nc psc tec spc gn ln cn kn sn G LK LB K B KK KB SK SB) (hc : cells ≤ 60 + (rC kpc + rC pac + rC lac + rC tec + rC spc + sC sc + pC nc + sC psc)) (hs : slots ≤ 42000 + 8 * (rC kpc + rC pac + rC lac + rC tec + rC spc + sC sc + pC nc + sC psc)) (kk : lwK X E b i x g kp pa la s n ps m A) : gW X (nsO x g kp pa la s n te sp ++ (glW E g gc ++ (rowW E kp kpc ++ (rowW E pa pac ++ (rowW E la lac ++ (scW E s sc ++ (pnW E n ps nc ++ (scW E ps psc ++ (rowW E te tec ++ (rowW E sp spc ++ (mdO m A gn ln cn kn sn dn mt mg ++ (mG E A G ++ (mI E A 1 LK ++ (mL E A 2 LB ++ (mI E A 3 K ++ (mL E A 4 B ++ (mI E A 5 KK ++ (mL E A 6 KB ++ (mI E A 7 SK ++ (mL E A 8 SB ++ (mI E A 9 DK ++ (mL E A 10 DB ++ (mI E A 11 SZ ++ (mI E A 12 WH ++ (mI E A 13 BO))))))))))))))))))))))))) cells slots 408 [(0, .ref b), (1, .ref x), (2, .ref m), (3, .int (iI (i : Int)))] [] := by
  obtain ⟨hG, hKp, hPa, hLa, sk, nk, psk, hTe, spk⟩ := id hI
  obtain ⟨gk, g1, g2, g3⟩ := id hG
  obtain ⟨kpk, k1, k2, k3, k4⟩ := id hKp
  obtain ⟨pak, p1, p2, p3, p4⟩ := id hPa
  obtain ⟨lak, l1, l2, l3, l4⟩ := id hLa
  obtain ⟨tek, t1, t2, t3, t4⟩ := id hTe
  have gb1 := gk.1
  obtain ⟨⟨kpb1, kpb2, kpb3, kpb4⟩, -⟩ := id kpk
  obtain ⟨⟨pab1, pab2, pab3, pab4⟩, -⟩ := id pak
  obtain ⟨⟨lab1, lab2, lab3, lab4⟩, -⟩ := id lak
  obtain ⟨⟨teb1, teb2, teb3, teb4⟩, -⟩ := id tek
  obtain ⟨⟨spb1, spb2, spb3, spb4⟩, -⟩ := id spk
  obtain ⟨⟨sb1, sb2, sb3, sb4⟩, -⟩ := id sk
  obtain ⟨⟨nb1, nb2, nb3⟩, -⟩ := id nk
  obtain ⟨⟨psb1, psb2, psb3, psb4⟩, -⟩ := id psk
  obtain ⟨σ, hm1, ho, hT, hq1, hq2, hq3, hq4, hq5, hq6⟩ := hTe.sig
  refine g_aload_n (pc := 408) hX 1 d_LW_law_408 rfl rfl ?_
  refine g_iV (pc := 409) hX (c_NS_same l E x g kp pa la s n te sp tec tek kpc kpk) gy_NS_same gv_NS_same w_449 rfl (by decide) (by decide) [0, 28, 29, 30, 31, 3, 4, 5, 6] rfl (by decide +kernel) rfl rfl rfl _ rfl (Nat.le_of_ble_eq_true rfl) d_LW_law_409 (show _ + 0 ≤ 600000 by (first | omega | (dsimp only [rN, rC, rF, rG, rH, rA, sN, sC, sI, sD, sO, sA, uN, uF, pA, pC, pX, pL, pR, pK, pM] at *; omega))) (show _ + 0 ≤ 7302250 by (first | omega | (dsimp only [rN, rC, rF, rG, rH, rA, sN, sC, sI, sD, sO, sA, uN, uF, pA, pC, pX, pL, pR, pK, pM] at *; omega))) ?_
  refine g_aload_n (pc := 412) hX 2 d_LW_law_412 rfl rfl ?_
  refine g_iV (pc := 413) hX (c_MD_same l E m A gn ln cn kn sn dn mt mg K B KK KB (by (first | omega | (dsimp only [rN, rC, rF, rG, rH, rA, sN, sC, sI, sD, sO, sA, uN, uF, pA, pC, pX, pL, pR, pK, pM] at *; omega))) (fun j hj => by have := hq1 j hj; have := hq2 j hj; (first | omega | (dsimp only [rN, rC, rF, rG, rH, rA, sN, sC, sI, sD, sO, sA, uN, uF, pA, pC, pX, pL, pR, pK, pM] at *; omega))) k4) gy_MD_same gv_MD_same w_645 rfl (by decide) (by decide) [36, 40, 41, 42, 43] rfl (by decide +kernel) rfl rfl rfl _ rfl (Nat.le_of_ble_eq_true rfl) d_LW_law_413 (show _ + 0 ≤ 600000 by (first | omega | (dsimp only [rN, rC, rF, rG, rH, rA, sN, sC, sI, sD, sO, sA, uN, uF, pA, pC, pX, pL, pR, pK, pM] at *; omega))) (show _ + 0 ≤ 7302250 by (first | omega | (dsimp only [rN, rC, rF, rG, rH, rA, sN, sC, sI, sD, sO, sA, uN, uF, pA, pC, pX, pL, pR, pK, pM] at *; omega))) ?_
  rw [bZ_c (same_iff hTe hKp)]
  have hbz := bZ_01 (sameM cn kn K B KK KB)
  refine g_icmp_eq (pc := 416) (tgt := 421) hX d_LW_law_416 (by decide) (by (first | omega | (dsimp only [rN, rC, rF, rG, rH, rA, sN, sC, sI, sD, sO, sA, uN, uF, pA, pC, pX, pL, pR, pK, pM] at *; omega))) (by (first | omega | (dsimp only [rN, rC, rF, rG, rH, rA, sN, sC, sI, sD, sO, sA, uN, uF, pA, pC, pX, pL, pR, pK, pM] at *; omega))) (fun c_9 => ?_) (fun c_9 => ?_)
  · exact kk te sp gc kpc pac lac sc nc psc tec spc gn ln cn kn sn dn mt mg G LK LB K B KK KB SK SB DK DB SZ WH BO _ _ ⟨hG, hKp, hPa, hLa, sk, nk, psk, hTe, spk⟩ (by (first | omega | (dsimp only [rN, rC, rF, rG, rH, rA, sN, sC, sI, sD, sO, sA, uN, uF, pA, pC, pX, pL, pR, pK, pM] at *; omega))) (by (first | omega | (dsimp only [rN, rC, rF, rG, rH, rA, sN, sC, sI, sD, sO, sA, uN, uF, pA, pC, pX, pL, pR, pK, pM] at *; omega)))
  · exact absurd (rfl) c_9
  
