set_option maxHeartbeats 4000000 in
set_option maxRecDepth 100000 in
theorem law_start {X : gC} {l : Launch} {E : gE} {b L : Nat} {xs : Nat → Int32} (hX : gOK X code "NameScopeLaw" l E rm_LW 4) (hL : gL X b L xs) (hL2 : L ≤ 2048) : gW X [] 0 0 0 [(0, .ref b)] [] := by
  refine g_new (pc := 0) hX in_NS gt_NS w_11 w_12 w_1 (ci := 4) rfl [.null, .null, .null, .null, .null, .null, .null, .null] (fun j hj => by rcases j with _ | _ | _ | _ | _ | _ | _ | _ | j <;> first | rfl | omega) (by decide) (by decide) d_LW_law_0 (fun x => ?_)
  refine g_ws ([(x, .inr (4, [.null, .null, .null, .null, .null, .null, .null, .null]))]) rfl ?_
  refine g_dup (pc := 3) hX d_LW_law_3 rfl ?_
  refine g_callI (pc := 4) hX (c_NS_init l E x) gy_NS_init rfl w_14 w_13 rfl (by decide) (by decide) [0] rfl rfl _ rfl (Nat.le_of_ble_eq_true rfl) d_LW_law_4 (by decide) (by decide) (fun _ _ _ _ h => (fun h => by obtain ⟨_, _, _, _, _, _, _, _, _, _, _, _, _, _, _, _, _, h2, _⟩ := h; rw [h2]; exact Nat.le_of_ble_eq_true rfl) h) (fun v w dc ds hp => ?_)
  obtain ⟨g, kp, pa, la, s, n, te, sp, gc, kpc, pac, lac, sc, nc, tec, spc, rfl, rfl, ⟨gk, kpk, pak, lak, sk, nk, tek, spk⟩, ⟨z1, z2, z3, z4, z5, z6⟩, rfl, rfl⟩ := hp
  refine g_ws (nsO x g kp pa la s n te sp ++ (glW E g gc ++ (rowW E kp kpc ++ (rowW E pa pac ++ (rowW E la lac ++ (scW E s sc ++ (pnW E n g s nc ++ (rowW E te tec ++ (rowW E sp spc))))))))) rfl ?_
  refine g_astore_n (pc := 7) hX 1 d_LW_law_7 rfl (by decide) ?_
  refine g_new (pc := 8) hX in_MD gt_MD w_455 w_456 w_6 (ci := 5) rfl [.null, .int 0, .null, .null, .int 0, .null, .null, .int 0, .null, .null, .int 0, .null, .null, .int 0, .null, .null, .int 0, .null, .null, .null, .int 0, .long 0] (fun j hj => by rcases j with _ | _ | _ | _ | _ | _ | _ | _ | _ | _ | _ | _ | _ | _ | _ | _ | _ | _ | _ | _ | _ | _ | j <;> first | rfl | omega) (by decide) (by decide) d_LW_law_8 (fun m => ?_)
  refine g_ws (nsO x g kp pa la s n te sp ++ (glW E g gc ++ (rowW E kp kpc ++ (rowW E pa pac ++ (rowW E la lac ++ (scW E s sc ++ (pnW E n g s nc ++ (rowW E te tec ++ (rowW E sp spc ++ ([(m, .inr (5, [.null, .int 0, .null, .null, .int 0, .null, .null, .int 0, .null, .null, .int 0, .null, .null, .int 0, .null, .null, .int 0, .null, .null, .null, .int 0, .long 0]))])))))))))) rfl ?_
  refine g_dup (pc := 11) hX d_LW_law_11 rfl ?_
  refine g_callI (pc := 12) hX (c_MD_init l E m) gy_MD_init rfl w_458 w_457 rfl (by decide) (by decide) [32] rfl rfl _ rfl (Nat.le_of_ble_eq_true rfl) d_LW_law_12 (by decide) (by decide) (fun _ _ _ _ h => (fun h => by obtain ⟨_, _, h2, _⟩ := h; rw [h2]; exact Nat.le_of_ble_eq_true rfl) h) (fun v w dc ds hp => ?_)
  obtain ⟨A, rfl, rfl, rfl, rfl⟩ := hp
  refine g_ws (nsO x g kp pa la s n te sp ++ (glW E g gc ++ (rowW E kp kpc ++ (rowW E pa pac ++ (rowW E la lac ++ (scW E s sc ++ (pnW E n g s nc ++ (rowW E te tec ++ (rowW E sp spc ++ (mdO m A 0 0 0 0 0 0 0 0 ++ (mG E A (fun _ => 0) ++ (mI E A 1 (fun _ => 0) ++ (mL E A 2 (fun _ => 0) ++ (mI E A 3 (fun _ => 0) ++ (mL E A 4 (fun _ => 0) ++ (mI E A 5 (fun _ => 0) ++ (mL E A 6 (fun _ => 0) ++ (mI E A 7 (fun _ => 0) ++ (mL E A 8 (fun _ => 0) ++ (mI E A 9 (fun _ => 0) ++ (mL E A 10 (fun _ => 0) ++ (mI E A 11 (fun _ => 0) ++ (mI E A 12 (fun _ => 0) ++ (mI E A 13 (fun _ => 0))))))))))))))))))))))))) rfl ?_
  refine g_astore_n (pc := 15) hX 2 d_LW_law_15 rfl (by decide) ?_
  refine g_iconst (pc := 16) hX d_LW_law_16 ?_
  refine g_istore_n (pc := 17) hX 3 d_LW_law_17 rfl (by decide) ?_
  refine g_lv [(0, .ref b), (1, .ref x), (2, .ref m), (3, .int (iI ((0 : Nat) : Int)))] ⟨rfl, rfl, rfl, rfl, trivial⟩ ?_
  have no : ∀ j : Nat, j < 0 → False := fun j hj => by omega
  have hI : lwI gc kpc pac lac sc nc tec spc 0 0 0 0 0 (fun _ => 0) (fun _ => 0) (fun _ => 0) (fun _ => 0) (fun _ => 0) (fun _ => 0) (fun _ => 0) (fun _ => 0) (fun _ => 0) := ⟨⟨gk, z1, fun j hj => absurd hj (Nat.not_lt_zero j), fun j hj => absurd hj (Nat.not_lt_zero j)⟩, ⟨kpk, z2, fun j hj => absurd hj (Nat.not_lt_zero j), fun j hj => absurd hj (Nat.not_lt_zero j), fun j hj => absurd hj (Nat.not_lt_zero j)⟩, iL.zero pak z3, iL.zero lak z4, sk, nk, ⟨tek, z5, fun j hj => absurd hj (Nat.not_lt_zero j), fun j hj => absurd hj (Nat.not_lt_zero j), Or.inl rfl⟩, spk⟩
  exact law_loop hX hL hL2 x g kp pa la s n m A (L + 1) 0 te sp gc kpc pac lac sc nc tec spc 0 0 0 0 0 0 0 0 (fun _ => 0) (fun _ => 0) (fun _ => 0) (fun _ => 0) (fun _ => 0) (fun _ => 0) (fun _ => 0) (fun _ => 0) (fun _ => 0) (fun _ => 0) (fun _ => 0) (fun _ => 0) (fun _ => 0) (fun _ => 0) _ _ (by omega) (by omega) hI (by omega) (by omega)
