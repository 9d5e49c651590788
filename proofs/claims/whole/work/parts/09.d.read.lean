abbrev rm_SC_read : Room := { frames := 4, cells := 6000, slots := 36000, locals := 84 }
set_option maxHeartbeats 4000000 in
set_option maxRecDepth 100000 in
theorem c_SC_read (l : Launch) (E : gE) (s : Nat) (sc : ScT) (sk : scOK sc) (r : Nat) (rc : RowT) (rk : rowOK rc) (σ : Nat → Nat) (hz : Sz (rN rc) (rF rc) σ 0) (h0 : σ 0 = rN rc) (hn : 0 < rN rc) (hsz : (∀ j, j < rN rc → rH rc j = σ j)) : Ct l E y_SC_read b_SC_read 5 none rm_SC_read [.ref s, .ref r] (scW E s sc ++ rowW E r rc) (fun v w dc ds => ∃ ς, v = none ∧ w = scW E s ς ++ rowW E r rc ∧ scOK ς ∧ (sN ς = rN rc ∧ (∀ k, k < rN rc → sD ς k = (((env (rF rc) k).length : Nat) : Int) ∧ sI ς k = hd (env (rF rc) k)) ∧ sGrow sc ς dc ds)) := by
  obtain ⟨⟨s1, s2, s3, s4⟩, si, sd, so⟩ := id sk
  obtain ⟨⟨r1, r2, r3, r4⟩, rf, rg, rh⟩ := id rk
  refine g_start (by decide) (Nat.le_of_ble_eq_true rfl) (fun X hX hE hin => ?_)
  refine g_aload_n (pc := 0) hX 0 d_SC_read_0 rfl rfl ?_
  refine g_aload_n (pc := 1) hX 1 d_SC_read_1 rfl rfl ?_
  refine g_iV (pc := 2) hX (c_RW_count l E r rc rk) gy_RW_count gv_RW_count w_240 rfl (by decide) (by decide) [4, 5, 6, 7] rfl rfl rfl rfl rfl _ rfl (Nat.le_of_ble_eq_true rfl) d_SC_read_2 (show _ + 0 ≤ 6000 by (first | omega | (dsimp only [rN, rC, rF, rG, rH, rA, sN, sC, sI, sD, sO, sA, uN, uF] at *; omega))) (show _ + 0 ≤ 36000 by (first | omega | (dsimp only [rN, rC, rF, rG, rH, rA, sN, sC, sI, sD, sO, sA, uN, uF] at *; omega))) ?_
  refine g_callV (pc := 5) hX (c_SC_makeRoom l E s sc sk _ (by (first | omega | (dsimp only [rN, rC, rF, rG, rH, rA, sN, sC, sI, sD, sO, sA, uN, uF] at *; omega))) (by (first | omega | (dsimp only [rN, rC, rF, rG, rH, rA, sN, sC, sI, sD, sO, sA, uN, uF] at *; omega)))) gy_SC_makeRoom gv_SC_makeRoom w_241 rfl (by decide) (by decide) [0, 1, 2, 3] rfl rfl rfl rfl rfl _ rfl (Nat.le_of_ble_eq_true rfl) d_SC_read_5 (show _ + 3 ≤ 6000 by (first | omega | (dsimp only [rN, rC, rF, rG, rH, rA, sN, sC, sI, sD, sO, sA, uN, uF] at *; omega))) (show _ + 19200 ≤ 36000 by (first | omega | (dsimp only [rN, rC, rF, rG, rH, rA, sN, sC, sI, sD, sO, sA, uN, uF] at *; omega))) (fun _ _ _ _ h => by obtain ⟨_, _, h2, _⟩ := h; rw [h2]; exact Nat.le_of_ble_eq_true rfl) (fun v w dc_1 ds_1 hp => ?_)
  obtain ⟨s_1, rfl, rfl, sk_1, f_1⟩ := hp
  refine g_wsP (scW E s s_1 ++ rowW E r rc) rfl rfl ?_
  obtain ⟨e1, e2, e3⟩ := f_1
  obtain ⟨⟨t1, t2, t3, t4⟩, si1, sd1, so1⟩ := id sk_1
  obtain ⟨g1, g2, g3⟩ := id e3
  refine g_aload_n (pc := 8) hX 0 d_SC_read_8 rfl rfl ?_
  refine g_aload_n (pc := 9) hX 1 d_SC_read_9 rfl rfl ?_
  refine g_iV (pc := 10) hX (c_RW_count l E r rc rk) gy_RW_count gv_RW_count w_240 rfl (by decide) (by decide) [4, 5, 6, 7] rfl rfl rfl rfl rfl _ rfl (Nat.le_of_ble_eq_true rfl) d_SC_read_10 (show _ + 0 ≤ 6000 by (first | omega | (dsimp only [rN, rC, rF, rG, rH, rA, sN, sC, sI, sD, sO, sA, uN, uF] at *; omega))) (show _ + 0 ≤ 36000 by (first | omega | (dsimp only [rN, rC, rF, rG, rH, rA, sN, sC, sI, sD, sO, sA, uN, uF] at *; omega))) ?_
  refine g_put (pc := 13) hX f_SC_9 gt_SC 0 rfl rfl rfl rfl (Nat.le_of_ble_eq_true rfl) d_SC_read_13 ?_
  have hok0 : scOK ((sA s_1, rN rc, sC s_1, sI s_1, sD s_1, sO s_1) : ScT) := sk_1.u (by (first | omega | (dsimp only [rN, rC, rF, rG, rH, rA, sN, sC, sI, sD, sO, sA, uN, uF] at *; omega))) si1 sd1 so1
  refine g_ws (scW E s ((sA s_1, rN rc, sC s_1, sI s_1, sD s_1, sO s_1) : ScT) ++ rowW E r rc) rfl ?_
  refine g_aload_n (pc := 16) hX 0 d_SC_read_16 rfl rfl ?_
  refine g_iconst (pc := 17) hX d_SC_read_17 ?_
  refine g_iconst (pc := 18) hX d_SC_read_18 ?_
  refine g_callV (pc := 19) hX (c_SC_setInnermost l E s ((sA s_1, rN rc, sC s_1, sI s_1, sD s_1, sO s_1) : ScT) hok0 _ (by (first | omega | (dsimp only [rN, rC, rF, rG, rH, rA, sN, sC, sI, sD, sO, sA, uN, uF] at *; omega))) _ (by (first | omega | (dsimp only [rN, rC, rF, rG, rH, rA, sN, sC, sI, sD, sO, sA, uN, uF] at *; omega)))) gy_SC_setInnermost gv_SC_setInnermost w_246 rfl (by decide) (by decide) [0, 1, 2, 3] rfl rfl rfl rfl rfl _ rfl (Nat.le_of_ble_eq_true rfl) d_SC_read_19 (show _ + 0 ≤ 6000 by (first | omega | (dsimp only [rN, rC, rF, rG, rH, rA, sN, sC, sI, sD, sO, sA, uN, uF] at *; omega))) (show _ + 0 ≤ 36000 by (first | omega | (dsimp only [rN, rC, rF, rG, rH, rA, sN, sC, sI, sD, sO, sA, uN, uF] at *; omega))) (fun _ _ _ _ h => by obtain ⟨_, _, h2, _⟩ := h; rw [h2]; exact Nat.le_of_ble_eq_true rfl) (fun v w dc_2 ds_2 hp => ?_)
  obtain ⟨s_2, rfl, rfl, sk_2, f_2⟩ := hp
  refine g_wsP (scW E s s_2 ++ rowW E r rc) rfl rfl ?_
  obtain ⟨rfl, rfl, rfl⟩ := f_2
  have hok1 : scOK ((sA s_1, rN rc, sC s_1, uZ (sI s_1) 0 (-1), sD s_1, sO s_1) : ScT) := sk_1.u (by (first | omega | (dsimp only [rN, rC, rF, rG, rH, rA, sN, sC, sI, sD, sO, sA, uN, uF] at *; omega))) (uZ_gin si1 (by decide)) sd1 so1
  refine g_ws (scW E s ((sA s_1, rN rc, sC s_1, uZ (sI s_1) 0 (-1), sD s_1, sO s_1) : ScT) ++ rowW E r rc) (by rw [show (if (0 : Int) ≤ 0 ∧ (0 : Int) < sN ((sA s_1, rN rc, sC s_1, sI s_1, sD s_1, sO s_1) : ScT) then uZ (sI ((sA s_1, rN rc, sC s_1, sI s_1, sD s_1, sO s_1) : ScT)) (Int.toNat 0) (-1) else sI ((sA s_1, rN rc, sC s_1, sI s_1, sD s_1, sO s_1) : ScT)) = uZ (sI s_1) 0 (-1) from if_pos (by show (0 : Int) ≤ 0 ∧ (0 : Int) < (rN rc : Int); (first | omega | (dsimp only [rN, rC, rF, rG, rH, rA, sN, sC, sI, sD, sO, sA, uN, uF] at *; omega)))] <;> rfl) ?_
  refine g_iconst (pc := 22) hX d_SC_read_22 ?_
  refine g_istore_n (pc := 23) hX 2 d_SC_read_23 rfl (by decide) ?_
  have loop : ∀ (d : Nat) (k : Nat) (I D : Nat → Int), rN rc < k + d → k ≤ rN rc → (∀ j, gin (I j)) → (∀ j, 0 ≤ D j ∧ D j ≤ 3000) → inv2 (rN rc) (rF rc) σ I k → (∀ j, j < k → D j = (((env (rF rc) j).length : Nat) : Int)) → gW X (scW E s ((sA s_1, rN rc, sC s_1, I, D, sO s_1) : ScT) ++ rowW E r rc) (0 + dc_1) (0 + ds_1) 24 [(0, .ref s), (1, .ref r), (2, .int (iI (k : Int)))] [] := by
    intro d
    induction d with
    | zero => intro k I D hfu hk hir hdr hI2 hD; (first | omega | (dsimp only [rN, rC, rF, rG, rH, rA, sN, sC, sI, sD, sO, sA, uN, uF] at *; omega))
    | succ d ih =>
      intro k I D hfu hk hir hdr hI2 hD
      have hok : scOK ((sA s_1, rN rc, sC s_1, I, D, sO s_1) : ScT) := sk_1.u (by (first | omega | (dsimp only [rN, rC, rF, rG, rH, rA, sN, sC, sI, sD, sO, sA, uN, uF] at *; omega))) hir hdr so1
      refine g_iload_n (pc := 24) hX 2 d_SC_read_24 rfl rfl ?_
      refine g_aload_n (pc := 25) hX 0 d_SC_read_25 rfl rfl ?_
      refine g_get (pc := 26) hX f_SC_9 0 rfl rfl d_SC_read_26 ?_
      refine g_icmp_ge (pc := 29) (tgt := 112) hX d_SC_read_29 (by decide) (by (first | omega | (dsimp only [rN, rC, rF, rG, rH, rA, sN, sC, sI, sD, sO, sA, uN, uF] at *; omega))) (by (first | omega | (dsimp only [rN, rC, rF, rG, rH, rA, sN, sC, sI, sD, sO, sA, uN, uF] at *; omega))) (fun c_3 => ?_) (fun c_3 => ?_)
      · exact g_vret (pc := 112) hX hE d_SC_read_112 (show _ ≤ 6000 by (first | omega | (dsimp only [rN, rC, rF, rG, rH, rA, sN, sC, sI, sD, sO, sA, uN, uF] at *; omega))) (show _ ≤ 36000 by (first | omega | (dsimp only [rN, rC, rF, rG, rH, rA, sN, sC, sI, sD, sO, sA, uN, uF] at *; omega))) ⟨((sA s_1, rN rc, sC s_1, I, D, sO s_1) : ScT), rfl, rfl, hok, rfl, fun j hj => ⟨hD j (by (first | omega | (dsimp only [rN, rC, rF, rG, rH, rA, sN, sC, sI, sD, sO, sA, uN, uF] at *; omega))), inv2_all hz h0 hI2 j hj (by (first | omega | (dsimp only [rN, rC, rF, rG, rH, rA, sN, sC, sI, sD, sO, sA, uN, uF] at *; omega)))⟩, by rw [Nat.zero_add, Nat.zero_add]; exact e3⟩
      · refine g_aload_n (pc := 32) hX 0 d_SC_read_32 rfl rfl ?_
        refine g_get (pc := 33) hX f_SC_15 0 rfl rfl d_SC_read_33 ?_
        refine g_iload_n (pc := 36) hX 2 d_SC_read_36 rfl rfl ?_
        refine g_iald (pc := 37) hX 1 rfl (by (first | omega | (dsimp only [rN, rC, rF, rG, rH, rA, sN, sC, sI, sD, sO, sA, uN, uF] at *; omega))) d_SC_read_37 ?_
        have hI : I ((k : Int).toNat) = hd (env (rF rc) k) := inv2_all hz h0 hI2 k (by (first | omega | (dsimp only [rN, rC, rF, rG, rH, rA, sN, sC, sI, sD, sO, sA, uN, uF] at *; omega))) (Nat.le_refl _)
        have hhd := hd_in (env_mem hz h0 (show k < rN rc by (first | omega | (dsimp only [rN, rC, rF, rG, rH, rA, sN, sC, sI, sD, sO, sA, uN, uF] at *; omega))))
        refine g_st (.int (iI (hd (env (rF rc) k))) :: []) (by rw [← hI]) ?_
        refine g_istore_n (pc := 38) hX 3 d_SC_read_38 rfl (by decide) ?_
        refine g_aload_n (pc := 39) hX 0 d_SC_read_39 rfl rfl ?_
        refine g_get (pc := 40) hX f_SC_19 0 rfl rfl d_SC_read_40 ?_
        refine g_iload_n (pc := 43) hX 2 d_SC_read_43 rfl rfl ?_
        refine g_iload_n (pc := 44) hX 3 d_SC_read_44 rfl rfl ?_
        refine g_iconst (pc := 45) hX d_SC_read_45 ?_
        refine g_icmp_ne (pc := 46) (tgt := 53) hX d_SC_read_46 (by decide) (by (first | omega | (dsimp only [rN, rC, rF, rG, rH, rA, sN, sC, sI, sD, sO, sA, uN, uF] at *; omega))) (by (first | omega | (dsimp only [rN, rC, rF, rG, rH, rA, sN, sC, sI, sD, sO, sA, uN, uF] at *; omega))) (fun c_4 => ?_) (fun c_4 => ?_)
        · refine g_aload_n (pc := 53) hX 0 d_SC_read_53 rfl rfl ?_
          refine g_iload_n (pc := 54) hX 3 d_SC_read_54 rfl rfl ?_
          refine g_iV (pc := 55) hX (c_SC_depth l E s ((sA s_1, rN rc, sC s_1, I, D, sO s_1) : ScT) hok _ (by (first | omega | (dsimp only [rN, rC, rF, rG, rH, rA, sN, sC, sI, sD, sO, sA, uN, uF] at *; omega)))) gy_SC_depth gv_SC_depth w_250 rfl (by decide) (by decide) [0, 1, 2, 3] rfl rfl rfl rfl rfl _ rfl (Nat.le_of_ble_eq_true rfl) d_SC_read_55 (show _ + 0 ≤ 6000 by (first | omega | (dsimp only [rN, rC, rF, rG, rH, rA, sN, sC, sI, sD, sO, sA, uN, uF] at *; omega))) (show _ + 0 ≤ 36000 by (first | omega | (dsimp only [rN, rC, rF, rG, rH, rA, sN, sC, sI, sD, sO, sA, uN, uF] at *; omega))) ?_
          refine g_iconst (pc := 58) hX d_SC_read_58 ?_
          refine g_iadd (pc := 59) hX d_SC_read_59 ?_
          have hle := env_le hz h0 (show k < rN rc by (first | omega | (dsimp only [rN, rC, rF, rG, rH, rA, sN, sC, sI, sD, sO, sA, uN, uF] at *; omega)))
          have hdv : zD ((sA s_1, rN rc, sC s_1, I, D, sO s_1) : ScT) (hd (env (rF rc) k)) + 1 = (((env (rF rc) k).length : Nat) : Int) := by
            rcases env_hd hz h0 (show k < rN rc by (first | omega | (dsimp only [rN, rC, rF, rG, rH, rA, sN, sC, sI, sD, sO, sA, uN, uF] at *; omega))) with ⟨e1, e2⟩ | ⟨b, e1, e2, e3, e4⟩
            · (first | omega | (dsimp only [rN, rC, rF, rG, rH, rA, sN, sC, sI, sD, sO, sA, uN, uF] at *; omega))
            · rw [e2, zD_t (by show (0 : Int) ≤ b ∧ (b : Int) < (rN rc : Int); (first | omega | (dsimp only [rN, rC, rF, rG, rH, rA, sN, sC, sI, sD, sO, sA, uN, uF] at *; omega)))]
              show D b + 1 = _
              rw [hD b e3, e1]; simp
          refine g_st (.int (iI (((env (rF rc) k).length : Nat) : Int)) :: .int (iI (k : Int)) :: .ref (sA s_1).2.1 :: []) (by rw [← hdv]) ?_
          refine g_iast (pc := 60) hX 2 rfl (by (first | omega | (dsimp only [rN, rC, rF, rG, rH, rA, sN, sC, sI, sD, sO, sA, uN, uF] at *; omega))) d_SC_read_60 ?_
          have hd1 : ∀ j, 0 ≤ (uZ D k (((env (rF rc) k).length : Nat) : Int)) j ∧ (uZ D k (((env (rF rc) k).length : Nat) : Int)) j ≤ 3000 := by
            intro j; unfold uZ; split
            · (first | omega | (dsimp only [rN, rC, rF, rG, rH, rA, sN, sC, sI, sD, sO, sA, uN, uF] at *; omega))
            · exact hdr j
          have hok2 : scOK ((sA s_1, rN rc, sC s_1, I, uZ D k (((env (rF rc) k).length : Nat) : Int), sO s_1) : ScT) := sk_1.u (by (first | omega | (dsimp only [rN, rC, rF, rG, rH, rA, sN, sC, sI, sD, sO, sA, uN, uF] at *; omega))) hir hd1 so1
          refine g_ws (scW E s ((sA s_1, rN rc, sC s_1, I, uZ D k (((env (rF rc) k).length : Nat) : Int), sO s_1) : ScT) ++ rowW E r rc) rfl ?_
          have hkk : rK rc (k : Int) = rF rc k := rK_t (by (first | omega | (dsimp only [rN, rC, rF, rG, rH, rA, sN, sC, sI, sD, sO, sA, uN, uF] at *; omega)))
          have qf := rf k
          refine g_aload_n (pc := 61) hX 1 d_SC_read_61 rfl rfl ?_
          refine g_iload_n (pc := 62) hX 2 d_SC_read_62 rfl rfl ?_
          refine g_iV (pc := 63) hX (c_RW_kind l E r rc rk _ (by (first | omega | (dsimp only [rN, rC, rF, rG, rH, rA, sN, sC, sI, sD, sO, sA, uN, uF] at *; omega)))) gy_RW_kind gv_RW_kind w_254 rfl (by decide) (by decide) [4, 5, 6, 7] rfl rfl rfl rfl rfl _ rfl (Nat.le_of_ble_eq_true rfl) d_SC_read_63 (show _ + 0 ≤ 6000 by (first | omega | (dsimp only [rN, rC, rF, rG, rH, rA, sN, sC, sI, sD, sO, sA, uN, uF] at *; omega))) (show _ + 0 ≤ 36000 by (first | omega | (dsimp only [rN, rC, rF, rG, rH, rA, sN, sC, sI, sD, sO, sA, uN, uF] at *; omega))) ?_
          rw [hkk]
          refine g_istore (pc := 66) hX d_SC_read_66 (by decide) ?_
          refine g_iload (pc := 68) hX d_SC_read_68 rfl ?_
          refine g_iSN (pc := 70) hX (c_NS_hasParts l E _ (by (first | omega | (dsimp only [rN, rC, rF, rG, rH, rA, sN, sC, sI, sD, sO, sA, uN, uF] at *; omega)))) gy_NS_hasParts w_215 n_258 rfl (by decide) (by decide) [] rfl rfl _ rfl (Nat.le_of_ble_eq_true rfl) d_SC_read_70 (show _ + 0 ≤ 6000 by (first | omega | (dsimp only [rN, rC, rF, rG, rH, rA, sN, sC, sI, sD, sO, sA, uN, uF] at *; omega))) (show _ + 0 ≤ 36000 by (first | omega | (dsimp only [rN, rC, rF, rG, rH, rA, sN, sC, sI, sD, sO, sA, uN, uF] at *; omega))) ?_
          refine g_beq (pc := 73) (tgt := 106) hX d_SC_read_73 (by decide) (fun c_5 => ?_) (fun c_5 => ?_)
          · refine g_iinc (pc := 106) hX d_SC_read_106 (by decide) rfl ?_
            refine g_goto (pc := 109) (tgt := 24) hX d_SC_read_109 (by decide) ?_
            refine g_lv [(0, .ref s), (1, .ref r), (2, .int (iI ((k + 1 : Nat) : Int)))] ⟨rfl, rfl, rfl, trivial⟩ ?_
            have hDn : ∀ j, j < k + 1 → (uZ D k (((env (rF rc) k).length : Nat) : Int)) j = (((env (rF rc) j).length : Nat) : Int) := by
              intro j hj
              by_cases e : j = k
              · subst e; exact uZ_s
              · rw [uZ_n e]; exact hD j (by (first | omega | (dsimp only [rN, rC, rF, rG, rH, rA, sN, sC, sI, sD, sO, sA, uN, uF] at *; omega)))
            exact ih (k + 1) I (uZ D k (((env (rF rc) k).length : Nat) : Int)) (by (first | omega | (dsimp only [rN, rC, rF, rG, rH, rA, sN, sC, sI, sD, sO, sA, uN, uF] at *; omega))) (by (first | omega | (dsimp only [rN, rC, rF, rG, rH, rA, sN, sC, sI, sD, sO, sA, uN, uF] at *; omega))) hir hd1 (inv2_leaf (fun q => c_5 q) hI2) hDn
          · have hp : pP (rF rc k) := by unfold pP; exact c_5
            obtain ⟨z1, z2, z3⟩ := (hz k (Nat.zero_le _) (by (first | omega | (dsimp only [rN, rC, rF, rG, rH, rA, sN, sC, sI, sD, sO, sA, uN, uF] at *; omega)))).2.2.1 hp
            have hs1 : rS rc ((k : Int) + 1) = σ (k + 1) := by rw [rS_t (by (first | omega | (dsimp only [rN, rC, rF, rG, rH, rA, sN, sC, sI, sD, sO, sA, uN, uF] at *; omega)))]; exact hsz (k + 1) z1
            refine g_aload_n (pc := 76) hX 0 d_SC_read_76 rfl rfl ?_
            refine g_iload_n (pc := 77) hX 2 d_SC_read_77 rfl rfl ?_
            refine g_iconst (pc := 78) hX d_SC_read_78 ?_
            refine g_iadd (pc := 79) hX d_SC_read_79 ?_
            refine g_iload_n (pc := 80) hX 3 d_SC_read_80 rfl rfl ?_
            refine g_callV (pc := 81) hX (c_SC_setInnermost l E s ((sA s_1, rN rc, sC s_1, I, uZ D k (((env (rF rc) k).length : Nat) : Int), sO s_1) : ScT) hok2 _ (by (first | omega | (dsimp only [rN, rC, rF, rG, rH, rA, sN, sC, sI, sD, sO, sA, uN, uF] at *; omega))) _ (by (first | omega | (dsimp only [rN, rC, rF, rG, rH, rA, sN, sC, sI, sD, sO, sA, uN, uF] at *; omega)))) gy_SC_setInnermost gv_SC_setInnermost w_246 rfl (by decide) (by decide) [0, 1, 2, 3] rfl rfl rfl rfl rfl _ rfl (Nat.le_of_ble_eq_true rfl) d_SC_read_81 (show _ + 0 ≤ 6000 by (first | omega | (dsimp only [rN, rC, rF, rG, rH, rA, sN, sC, sI, sD, sO, sA, uN, uF] at *; omega))) (show _ + 0 ≤ 36000 by (first | omega | (dsimp only [rN, rC, rF, rG, rH, rA, sN, sC, sI, sD, sO, sA, uN, uF] at *; omega))) (fun _ _ _ _ h => by obtain ⟨_, _, h2, _⟩ := h; rw [h2]; exact Nat.le_of_ble_eq_true rfl) (fun v w dc_6 ds_6 hp => ?_)
            obtain ⟨s_6, rfl, rfl, sk_6, f_6⟩ := hp
            refine g_wsP (scW E s s_6 ++ rowW E r rc) rfl rfl ?_
            obtain ⟨rfl, rfl, rfl⟩ := f_6
            have hok3 : scOK ((sA s_1, rN rc, sC s_1, (uZ I (k + 1) (hd (env (rF rc) k))), uZ D k (((env (rF rc) k).length : Nat) : Int), sO s_1) : ScT) := sk_1.u (by (first | omega | (dsimp only [rN, rC, rF, rG, rH, rA, sN, sC, sI, sD, sO, sA, uN, uF] at *; omega))) (uZ_gin hir (by (first | omega | (dsimp only [rN, rC, rF, rG, rH, rA, sN, sC, sI, sD, sO, sA, uN, uF] at *; omega)))) hd1 so1
            refine g_ws (scW E s ((sA s_1, rN rc, sC s_1, (uZ I (k + 1) (hd (env (rF rc) k))), uZ D k (((env (rF rc) k).length : Nat) : Int), sO s_1) : ScT) ++ rowW E r rc) (by rw [show (if (0 : Int) ≤ (k : Int) + 1 ∧ (k : Int) + 1 < sN ((sA s_1, rN rc, sC s_1, I, uZ D k (((env (rF rc) k).length : Nat) : Int), sO s_1) : ScT) then uZ (sI ((sA s_1, rN rc, sC s_1, I, uZ D k (((env (rF rc) k).length : Nat) : Int), sO s_1) : ScT)) ((k : Int) + 1).toNat (hd (env (rF rc) k)) else sI ((sA s_1, rN rc, sC s_1, I, uZ D k (((env (rF rc) k).length : Nat) : Int), sO s_1) : ScT)) = (uZ I (k + 1) (hd (env (rF rc) k))) from if_pos (by show (0 : Int) ≤ (k : Int) + 1 ∧ (k : Int) + 1 < (rN rc : Int); (first | omega | (dsimp only [rN, rC, rF, rG, rH, rA, sN, sC, sI, sD, sO, sA, uN, uF] at *; omega)))] <;> rfl) ?_
            refine g_aload_n (pc := 84) hX 0 d_SC_read_84 rfl rfl ?_
            refine g_aload_n (pc := 85) hX 1 d_SC_read_85 rfl rfl ?_
            refine g_iload_n (pc := 86) hX 2 d_SC_read_86 rfl rfl ?_
            refine g_iV (pc := 87) hX (c_RW_second l E r rc rk _ (by (first | omega | (dsimp only [rN, rC, rF, rG, rH, rA, sN, sC, sI, sD, sO, sA, uN, uF] at *; omega))) (by (first | omega | (dsimp only [rN, rC, rF, rG, rH, rA, sN, sC, sI, sD, sO, sA, uN, uF] at *; omega)))) gy_RW_second gv_RW_second w_259 rfl (by decide) (by decide) [4, 5, 6, 7] rfl rfl rfl rfl rfl _ rfl (Nat.le_of_ble_eq_true rfl) d_SC_read_87 (show _ + 0 ≤ 6000 by (first | omega | (dsimp only [rN, rC, rF, rG, rH, rA, sN, sC, sI, sD, sO, sA, uN, uF] at *; omega))) (show _ + 0 ≤ 36000 by (first | omega | (dsimp only [rN, rC, rF, rG, rH, rA, sN, sC, sI, sD, sO, sA, uN, uF] at *; omega))) ?_
            refine g_iload (pc := 90) hX d_SC_read_90 rfl ?_
            refine g_iSN (pc := 92) hX (c_NS_isBinder l E _ (by (first | omega | (dsimp only [rN, rC, rF, rG, rH, rA, sN, sC, sI, sD, sO, sA, uN, uF] at *; omega)))) gy_NS_isBinder w_218 n_260 rfl (by decide) (by decide) [] rfl rfl _ rfl (Nat.le_of_ble_eq_true rfl) d_SC_read_92 (show _ + 0 ≤ 6000 by (first | omega | (dsimp only [rN, rC, rF, rG, rH, rA, sN, sC, sI, sD, sO, sA, uN, uF] at *; omega))) (show _ + 0 ≤ 36000 by (first | omega | (dsimp only [rN, rC, rF, rG, rH, rA, sN, sC, sI, sD, sO, sA, uN, uF] at *; omega))) ?_
            refine g_beq (pc := 95) (tgt := 102) hX d_SC_read_95 (by decide) (fun c_7 => ?_) (fun c_7 => ?_)
            · refine g_iload_n (pc := 102) hX 3 d_SC_read_102 rfl rfl ?_
              have hl2 : gin (hd (lastE (rF rc) k (env (rF rc) k))) := by rw [show (hd (lastE (rF rc) k (env (rF rc) k))) = hd (env (rF rc) k) from by unfold lastE; rw [if_neg (show ¬ bP (rF rc k) from c_7)]]; (first | omega | (dsimp only [rN, rC, rF, rG, rH, rA, sN, sC, sI, sD, sO, sA, uN, uF] at *; omega))
              refine g_st (.int (iI (hd (lastE (rF rc) k (env (rF rc) k)))) :: .int (iI ((k + 1 + σ (k + 1) : Nat) : Int)) :: .ref s :: []) (by rw [show (hd (lastE (rF rc) k (env (rF rc) k))) = hd (env (rF rc) k) from by unfold lastE; rw [if_neg (show ¬ bP (rF rc k) from c_7)], show ((k + 1 + σ (k + 1) : Nat) : Int) = (k : Int) + 1 + rS rc ((k : Int) + 1) by (first | omega | (dsimp only [rN, rC, rF, rG, rH, rA, sN, sC, sI, sD, sO, sA, uN, uF] at *; omega))] <;> rfl) ?_
              refine g_callV (pc := 103) hX (c_SC_setInnermost l E s ((sA s_1, rN rc, sC s_1, (uZ I (k + 1) (hd (env (rF rc) k))), uZ D k (((env (rF rc) k).length : Nat) : Int), sO s_1) : ScT) hok3 _ (by (first | omega | (dsimp only [rN, rC, rF, rG, rH, rA, sN, sC, sI, sD, sO, sA, uN, uF] at *; omega))) _ (by (first | omega | (dsimp only [rN, rC, rF, rG, rH, rA, sN, sC, sI, sD, sO, sA, uN, uF] at *; omega)))) gy_SC_setInnermost gv_SC_setInnermost w_246 rfl (by decide) (by decide) [0, 1, 2, 3] rfl rfl rfl rfl rfl _ rfl (Nat.le_of_ble_eq_true rfl) d_SC_read_103 (show _ + 0 ≤ 6000 by (first | omega | (dsimp only [rN, rC, rF, rG, rH, rA, sN, sC, sI, sD, sO, sA, uN, uF] at *; omega))) (show _ + 0 ≤ 36000 by (first | omega | (dsimp only [rN, rC, rF, rG, rH, rA, sN, sC, sI, sD, sO, sA, uN, uF] at *; omega))) (fun _ _ _ _ h => by obtain ⟨_, _, h2, _⟩ := h; rw [h2]; exact Nat.le_of_ble_eq_true rfl) (fun v w dc_8 ds_8 hp => ?_)
              obtain ⟨s_8, rfl, rfl, sk_8, f_8⟩ := hp
              refine g_wsP (scW E s s_8 ++ rowW E r rc) rfl rfl ?_
              obtain ⟨rfl, rfl, rfl⟩ := f_8
              refine g_ws (scW E s ((sA s_1, rN rc, sC s_1, (uZ (uZ I (k + 1) (hd (env (rF rc) k))) (k + 1 + σ (k + 1)) (hd (lastE (rF rc) k (env (rF rc) k)))), uZ D k (((env (rF rc) k).length : Nat) : Int), sO s_1) : ScT) ++ rowW E r rc) (by rw [show (if (0 : Int) ≤ ((k + 1 + σ (k + 1) : Nat) : Int) ∧ ((k + 1 + σ (k + 1) : Nat) : Int) < sN ((sA s_1, rN rc, sC s_1, (uZ I (k + 1) (hd (env (rF rc) k))), uZ D k (((env (rF rc) k).length : Nat) : Int), sO s_1) : ScT) then uZ (sI ((sA s_1, rN rc, sC s_1, (uZ I (k + 1) (hd (env (rF rc) k))), uZ D k (((env (rF rc) k).length : Nat) : Int), sO s_1) : ScT)) (((k + 1 + σ (k + 1) : Nat) : Int)).toNat (hd (lastE (rF rc) k (env (rF rc) k))) else sI ((sA s_1, rN rc, sC s_1, (uZ I (k + 1) (hd (env (rF rc) k))), uZ D k (((env (rF rc) k).length : Nat) : Int), sO s_1) : ScT)) = (uZ (uZ I (k + 1) (hd (env (rF rc) k))) (k + 1 + σ (k + 1)) (hd (lastE (rF rc) k (env (rF rc) k)))) from if_pos (by show (0 : Int) ≤ ((k + 1 + σ (k + 1) : Nat) : Int) ∧ ((k + 1 + σ (k + 1) : Nat) : Int) < (rN rc : Int); (first | omega | (dsimp only [rN, rC, rF, rG, rH, rA, sN, sC, sI, sD, sO, sA, uN, uF] at *; omega)))] <;> rfl) ?_
              refine g_iinc (pc := 106) hX d_SC_read_106 (by decide) rfl ?_
              refine g_goto (pc := 109) (tgt := 24) hX d_SC_read_109 (by decide) ?_
              refine g_lv [(0, .ref s), (1, .ref r), (2, .int (iI ((k + 1 : Nat) : Int)))] ⟨rfl, rfl, rfl, trivial⟩ ?_
              have hDn : ∀ j, j < k + 1 → (uZ D k (((env (rF rc) k).length : Nat) : Int)) j = (((env (rF rc) j).length : Nat) : Int) := by
                intro j hj
                by_cases e : j = k
                · subst e; exact uZ_s
                · rw [uZ_n e]; exact hD j (by (first | omega | (dsimp only [rN, rC, rF, rG, rH, rA, sN, sC, sI, sD, sO, sA, uN, uF] at *; omega)))
              exact ih (k + 1) (uZ (uZ I (k + 1) (hd (env (rF rc) k))) (k + 1 + σ (k + 1)) (hd (lastE (rF rc) k (env (rF rc) k)))) (uZ D k (((env (rF rc) k).length : Nat) : Int)) (by (first | omega | (dsimp only [rN, rC, rF, rG, rH, rA, sN, sC, sI, sD, sO, sA, uN, uF] at *; omega))) (by (first | omega | (dsimp only [rN, rC, rF, rG, rH, rA, sN, sC, sI, sD, sO, sA, uN, uF] at *; omega))) (uZ_gin (uZ_gin hir (by (first | omega | (dsimp only [rN, rC, rF, rG, rH, rA, sN, sC, sI, sD, sO, sA, uN, uF] at *; omega)))) hl2) hd1 (inv2_part hz h0 (by (first | omega | (dsimp only [rN, rC, rF, rG, rH, rA, sN, sC, sI, sD, sO, sA, uN, uF] at *; omega))) hp hI2) hDn
            · refine g_iload_n (pc := 98) hX 2 d_SC_read_98 rfl rfl ?_
              refine g_goto (pc := 99) (tgt := 103) hX d_SC_read_99 (by decide) ?_
              have hl2 : gin (hd (lastE (rF rc) k (env (rF rc) k))) := by rw [show (hd (lastE (rF rc) k (env (rF rc) k))) = (k : Int) from by unfold lastE; rw [if_pos (show bP (rF rc k) from c_7)]; rfl]; (first | omega | (dsimp only [rN, rC, rF, rG, rH, rA, sN, sC, sI, sD, sO, sA, uN, uF] at *; omega))
              refine g_st (.int (iI (hd (lastE (rF rc) k (env (rF rc) k)))) :: .int (iI ((k + 1 + σ (k + 1) : Nat) : Int)) :: .ref s :: []) (by rw [show (hd (lastE (rF rc) k (env (rF rc) k))) = (k : Int) from by unfold lastE; rw [if_pos (show bP (rF rc k) from c_7)]; rfl, show ((k + 1 + σ (k + 1) : Nat) : Int) = (k : Int) + 1 + rS rc ((k : Int) + 1) by (first | omega | (dsimp only [rN, rC, rF, rG, rH, rA, sN, sC, sI, sD, sO, sA, uN, uF] at *; omega))] <;> rfl) ?_
              refine g_callV (pc := 103) hX (c_SC_setInnermost l E s ((sA s_1, rN rc, sC s_1, (uZ I (k + 1) (hd (env (rF rc) k))), uZ D k (((env (rF rc) k).length : Nat) : Int), sO s_1) : ScT) hok3 _ (by (first | omega | (dsimp only [rN, rC, rF, rG, rH, rA, sN, sC, sI, sD, sO, sA, uN, uF] at *; omega))) _ (by (first | omega | (dsimp only [rN, rC, rF, rG, rH, rA, sN, sC, sI, sD, sO, sA, uN, uF] at *; omega)))) gy_SC_setInnermost gv_SC_setInnermost w_246 rfl (by decide) (by decide) [0, 1, 2, 3] rfl rfl rfl rfl rfl _ rfl (Nat.le_of_ble_eq_true rfl) d_SC_read_103 (show _ + 0 ≤ 6000 by (first | omega | (dsimp only [rN, rC, rF, rG, rH, rA, sN, sC, sI, sD, sO, sA, uN, uF] at *; omega))) (show _ + 0 ≤ 36000 by (first | omega | (dsimp only [rN, rC, rF, rG, rH, rA, sN, sC, sI, sD, sO, sA, uN, uF] at *; omega))) (fun _ _ _ _ h => by obtain ⟨_, _, h2, _⟩ := h; rw [h2]; exact Nat.le_of_ble_eq_true rfl) (fun v w dc_9 ds_9 hp => ?_)
              obtain ⟨s_9, rfl, rfl, sk_9, f_9⟩ := hp
              refine g_wsP (scW E s s_9 ++ rowW E r rc) rfl rfl ?_
              obtain ⟨rfl, rfl, rfl⟩ := f_9
              refine g_ws (scW E s ((sA s_1, rN rc, sC s_1, (uZ (uZ I (k + 1) (hd (env (rF rc) k))) (k + 1 + σ (k + 1)) (hd (lastE (rF rc) k (env (rF rc) k)))), uZ D k (((env (rF rc) k).length : Nat) : Int), sO s_1) : ScT) ++ rowW E r rc) (by rw [show (if (0 : Int) ≤ ((k + 1 + σ (k + 1) : Nat) : Int) ∧ ((k + 1 + σ (k + 1) : Nat) : Int) < sN ((sA s_1, rN rc, sC s_1, (uZ I (k + 1) (hd (env (rF rc) k))), uZ D k (((env (rF rc) k).length : Nat) : Int), sO s_1) : ScT) then uZ (sI ((sA s_1, rN rc, sC s_1, (uZ I (k + 1) (hd (env (rF rc) k))), uZ D k (((env (rF rc) k).length : Nat) : Int), sO s_1) : ScT)) (((k + 1 + σ (k + 1) : Nat) : Int)).toNat (hd (lastE (rF rc) k (env (rF rc) k))) else sI ((sA s_1, rN rc, sC s_1, (uZ I (k + 1) (hd (env (rF rc) k))), uZ D k (((env (rF rc) k).length : Nat) : Int), sO s_1) : ScT)) = (uZ (uZ I (k + 1) (hd (env (rF rc) k))) (k + 1 + σ (k + 1)) (hd (lastE (rF rc) k (env (rF rc) k)))) from if_pos (by show (0 : Int) ≤ ((k + 1 + σ (k + 1) : Nat) : Int) ∧ ((k + 1 + σ (k + 1) : Nat) : Int) < (rN rc : Int); (first | omega | (dsimp only [rN, rC, rF, rG, rH, rA, sN, sC, sI, sD, sO, sA, uN, uF] at *; omega)))] <;> rfl) ?_
              refine g_iinc (pc := 106) hX d_SC_read_106 (by decide) rfl ?_
              refine g_goto (pc := 109) (tgt := 24) hX d_SC_read_109 (by decide) ?_
              refine g_lv [(0, .ref s), (1, .ref r), (2, .int (iI ((k + 1 : Nat) : Int)))] ⟨rfl, rfl, rfl, trivial⟩ ?_
              have hDn : ∀ j, j < k + 1 → (uZ D k (((env (rF rc) k).length : Nat) : Int)) j = (((env (rF rc) j).length : Nat) : Int) := by
                intro j hj
                by_cases e : j = k
                · subst e; exact uZ_s
                · rw [uZ_n e]; exact hD j (by (first | omega | (dsimp only [rN, rC, rF, rG, rH, rA, sN, sC, sI, sD, sO, sA, uN, uF] at *; omega)))
              exact ih (k + 1) (uZ (uZ I (k + 1) (hd (env (rF rc) k))) (k + 1 + σ (k + 1)) (hd (lastE (rF rc) k (env (rF rc) k)))) (uZ D k (((env (rF rc) k).length : Nat) : Int)) (by (first | omega | (dsimp only [rN, rC, rF, rG, rH, rA, sN, sC, sI, sD, sO, sA, uN, uF] at *; omega))) (by (first | omega | (dsimp only [rN, rC, rF, rG, rH, rA, sN, sC, sI, sD, sO, sA, uN, uF] at *; omega))) (uZ_gin (uZ_gin hir (by (first | omega | (dsimp only [rN, rC, rF, rG, rH, rA, sN, sC, sI, sD, sO, sA, uN, uF] at *; omega)))) hl2) hd1 (inv2_part hz h0 (by (first | omega | (dsimp only [rN, rC, rF, rG, rH, rA, sN, sC, sI, sD, sO, sA, uN, uF] at *; omega))) hp hI2) hDn
        · refine g_iconst (pc := 49) hX d_SC_read_49 ?_
          refine g_goto (pc := 50) (tgt := 60) hX d_SC_read_50 (by decide) ?_
          have hle := env_le hz h0 (show k < rN rc by (first | omega | (dsimp only [rN, rC, rF, rG, rH, rA, sN, sC, sI, sD, sO, sA, uN, uF] at *; omega)))
          have hdv : (0 : Int) = (((env (rF rc) k).length : Nat) : Int) := by
            rcases env_hd hz h0 (show k < rN rc by (first | omega | (dsimp only [rN, rC, rF, rG, rH, rA, sN, sC, sI, sD, sO, sA, uN, uF] at *; omega))) with ⟨e1, e2⟩ | ⟨b, e1, e2, e3, e4⟩
            · rw [e1]; rfl
            · (first | omega | (dsimp only [rN, rC, rF, rG, rH, rA, sN, sC, sI, sD, sO, sA, uN, uF] at *; omega))
          refine g_st (.int (iI (((env (rF rc) k).length : Nat) : Int)) :: .int (iI (k : Int)) :: .ref (sA s_1).2.1 :: []) (by rw [← hdv]) ?_
          refine g_iast (pc := 60) hX 2 rfl (by (first | omega | (dsimp only [rN, rC, rF, rG, rH, rA, sN, sC, sI, sD, sO, sA, uN, uF] at *; omega))) d_SC_read_60 ?_
          have hd1 : ∀ j, 0 ≤ (uZ D k (((env (rF rc) k).length : Nat) : Int)) j ∧ (uZ D k (((env (rF rc) k).length : Nat) : Int)) j ≤ 3000 := by
            intro j; unfold uZ; split
            · (first | omega | (dsimp only [rN, rC, rF, rG, rH, rA, sN, sC, sI, sD, sO, sA, uN, uF] at *; omega))
            · exact hdr j
          have hok2 : scOK ((sA s_1, rN rc, sC s_1, I, uZ D k (((env (rF rc) k).length : Nat) : Int), sO s_1) : ScT) := sk_1.u (by (first | omega | (dsimp only [rN, rC, rF, rG, rH, rA, sN, sC, sI, sD, sO, sA, uN, uF] at *; omega))) hir hd1 so1
          refine g_ws (scW E s ((sA s_1, rN rc, sC s_1, I, uZ D k (((env (rF rc) k).length : Nat) : Int), sO s_1) : ScT) ++ rowW E r rc) rfl ?_
          have hkk : rK rc (k : Int) = rF rc k := rK_t (by (first | omega | (dsimp only [rN, rC, rF, rG, rH, rA, sN, sC, sI, sD, sO, sA, uN, uF] at *; omega)))
          have qf := rf k
          refine g_aload_n (pc := 61) hX 1 d_SC_read_61 rfl rfl ?_
          refine g_iload_n (pc := 62) hX 2 d_SC_read_62 rfl rfl ?_
          refine g_iV (pc := 63) hX (c_RW_kind l E r rc rk _ (by (first | omega | (dsimp only [rN, rC, rF, rG, rH, rA, sN, sC, sI, sD, sO, sA, uN, uF] at *; omega)))) gy_RW_kind gv_RW_kind w_254 rfl (by decide) (by decide) [4, 5, 6, 7] rfl rfl rfl rfl rfl _ rfl (Nat.le_of_ble_eq_true rfl) d_SC_read_63 (show _ + 0 ≤ 6000 by (first | omega | (dsimp only [rN, rC, rF, rG, rH, rA, sN, sC, sI, sD, sO, sA, uN, uF] at *; omega))) (show _ + 0 ≤ 36000 by (first | omega | (dsimp only [rN, rC, rF, rG, rH, rA, sN, sC, sI, sD, sO, sA, uN, uF] at *; omega))) ?_
          rw [hkk]
          refine g_istore (pc := 66) hX d_SC_read_66 (by decide) ?_
          refine g_iload (pc := 68) hX d_SC_read_68 rfl ?_
          refine g_iSN (pc := 70) hX (c_NS_hasParts l E _ (by (first | omega | (dsimp only [rN, rC, rF, rG, rH, rA, sN, sC, sI, sD, sO, sA, uN, uF] at *; omega)))) gy_NS_hasParts w_215 n_258 rfl (by decide) (by decide) [] rfl rfl _ rfl (Nat.le_of_ble_eq_true rfl) d_SC_read_70 (show _ + 0 ≤ 6000 by (first | omega | (dsimp only [rN, rC, rF, rG, rH, rA, sN, sC, sI, sD, sO, sA, uN, uF] at *; omega))) (show _ + 0 ≤ 36000 by (first | omega | (dsimp only [rN, rC, rF, rG, rH, rA, sN, sC, sI, sD, sO, sA, uN, uF] at *; omega))) ?_
          refine g_beq (pc := 73) (tgt := 106) hX d_SC_read_73 (by decide) (fun c_10 => ?_) (fun c_10 => ?_)
          · refine g_iinc (pc := 106) hX d_SC_read_106 (by decide) rfl ?_
            refine g_goto (pc := 109) (tgt := 24) hX d_SC_read_109 (by decide) ?_
            refine g_lv [(0, .ref s), (1, .ref r), (2, .int (iI ((k + 1 : Nat) : Int)))] ⟨rfl, rfl, rfl, trivial⟩ ?_
            have hDn : ∀ j, j < k + 1 → (uZ D k (((env (rF rc) k).length : Nat) : Int)) j = (((env (rF rc) j).length : Nat) : Int) := by
              intro j hj
              by_cases e : j = k
              · subst e; exact uZ_s
              · rw [uZ_n e]; exact hD j (by (first | omega | (dsimp only [rN, rC, rF, rG, rH, rA, sN, sC, sI, sD, sO, sA, uN, uF] at *; omega)))
            exact ih (k + 1) I (uZ D k (((env (rF rc) k).length : Nat) : Int)) (by (first | omega | (dsimp only [rN, rC, rF, rG, rH, rA, sN, sC, sI, sD, sO, sA, uN, uF] at *; omega))) (by (first | omega | (dsimp only [rN, rC, rF, rG, rH, rA, sN, sC, sI, sD, sO, sA, uN, uF] at *; omega))) hir hd1 (inv2_leaf (fun q => c_10 q) hI2) hDn
          · have hp : pP (rF rc k) := by unfold pP; exact c_10
            obtain ⟨z1, z2, z3⟩ := (hz k (Nat.zero_le _) (by (first | omega | (dsimp only [rN, rC, rF, rG, rH, rA, sN, sC, sI, sD, sO, sA, uN, uF] at *; omega)))).2.2.1 hp
            have hs1 : rS rc ((k : Int) + 1) = σ (k + 1) := by rw [rS_t (by (first | omega | (dsimp only [rN, rC, rF, rG, rH, rA, sN, sC, sI, sD, sO, sA, uN, uF] at *; omega)))]; exact hsz (k + 1) z1
            refine g_aload_n (pc := 76) hX 0 d_SC_read_76 rfl rfl ?_
            refine g_iload_n (pc := 77) hX 2 d_SC_read_77 rfl rfl ?_
            refine g_iconst (pc := 78) hX d_SC_read_78 ?_
            refine g_iadd (pc := 79) hX d_SC_read_79 ?_
            refine g_iload_n (pc := 80) hX 3 d_SC_read_80 rfl rfl ?_
            refine g_callV (pc := 81) hX (c_SC_setInnermost l E s ((sA s_1, rN rc, sC s_1, I, uZ D k (((env (rF rc) k).length : Nat) : Int), sO s_1) : ScT) hok2 _ (by (first | omega | (dsimp only [rN, rC, rF, rG, rH, rA, sN, sC, sI, sD, sO, sA, uN, uF] at *; omega))) _ (by (first | omega | (dsimp only [rN, rC, rF, rG, rH, rA, sN, sC, sI, sD, sO, sA, uN, uF] at *; omega)))) gy_SC_setInnermost gv_SC_setInnermost w_246 rfl (by decide) (by decide) [0, 1, 2, 3] rfl rfl rfl rfl rfl _ rfl (Nat.le_of_ble_eq_true rfl) d_SC_read_81 (show _ + 0 ≤ 6000 by (first | omega | (dsimp only [rN, rC, rF, rG, rH, rA, sN, sC, sI, sD, sO, sA, uN, uF] at *; omega))) (show _ + 0 ≤ 36000 by (first | omega | (dsimp only [rN, rC, rF, rG, rH, rA, sN, sC, sI, sD, sO, sA, uN, uF] at *; omega))) (fun _ _ _ _ h => by obtain ⟨_, _, h2, _⟩ := h; rw [h2]; exact Nat.le_of_ble_eq_true rfl) (fun v w dc_11 ds_11 hp => ?_)
            obtain ⟨s_11, rfl, rfl, sk_11, f_11⟩ := hp
            refine g_wsP (scW E s s_11 ++ rowW E r rc) rfl rfl ?_
            obtain ⟨rfl, rfl, rfl⟩ := f_11
            have hok3 : scOK ((sA s_1, rN rc, sC s_1, (uZ I (k + 1) (hd (env (rF rc) k))), uZ D k (((env (rF rc) k).length : Nat) : Int), sO s_1) : ScT) := sk_1.u (by (first | omega | (dsimp only [rN, rC, rF, rG, rH, rA, sN, sC, sI, sD, sO, sA, uN, uF] at *; omega))) (uZ_gin hir (by (first | omega | (dsimp only [rN, rC, rF, rG, rH, rA, sN, sC, sI, sD, sO, sA, uN, uF] at *; omega)))) hd1 so1
            refine g_ws (scW E s ((sA s_1, rN rc, sC s_1, (uZ I (k + 1) (hd (env (rF rc) k))), uZ D k (((env (rF rc) k).length : Nat) : Int), sO s_1) : ScT) ++ rowW E r rc) (by rw [show (if (0 : Int) ≤ (k : Int) + 1 ∧ (k : Int) + 1 < sN ((sA s_1, rN rc, sC s_1, I, uZ D k (((env (rF rc) k).length : Nat) : Int), sO s_1) : ScT) then uZ (sI ((sA s_1, rN rc, sC s_1, I, uZ D k (((env (rF rc) k).length : Nat) : Int), sO s_1) : ScT)) ((k : Int) + 1).toNat (hd (env (rF rc) k)) else sI ((sA s_1, rN rc, sC s_1, I, uZ D k (((env (rF rc) k).length : Nat) : Int), sO s_1) : ScT)) = (uZ I (k + 1) (hd (env (rF rc) k))) from if_pos (by show (0 : Int) ≤ (k : Int) + 1 ∧ (k : Int) + 1 < (rN rc : Int); (first | omega | (dsimp only [rN, rC, rF, rG, rH, rA, sN, sC, sI, sD, sO, sA, uN, uF] at *; omega)))] <;> rfl) ?_
            refine g_aload_n (pc := 84) hX 0 d_SC_read_84 rfl rfl ?_
            refine g_aload_n (pc := 85) hX 1 d_SC_read_85 rfl rfl ?_
            refine g_iload_n (pc := 86) hX 2 d_SC_read_86 rfl rfl ?_
            refine g_iV (pc := 87) hX (c_RW_second l E r rc rk _ (by (first | omega | (dsimp only [rN, rC, rF, rG, rH, rA, sN, sC, sI, sD, sO, sA, uN, uF] at *; omega))) (by (first | omega | (dsimp only [rN, rC, rF, rG, rH, rA, sN, sC, sI, sD, sO, sA, uN, uF] at *; omega)))) gy_RW_second gv_RW_second w_259 rfl (by decide) (by decide) [4, 5, 6, 7] rfl rfl rfl rfl rfl _ rfl (Nat.le_of_ble_eq_true rfl) d_SC_read_87 (show _ + 0 ≤ 6000 by (first | omega | (dsimp only [rN, rC, rF, rG, rH, rA, sN, sC, sI, sD, sO, sA, uN, uF] at *; omega))) (show _ + 0 ≤ 36000 by (first | omega | (dsimp only [rN, rC, rF, rG, rH, rA, sN, sC, sI, sD, sO, sA, uN, uF] at *; omega))) ?_
            refine g_iload (pc := 90) hX d_SC_read_90 rfl ?_
            refine g_iSN (pc := 92) hX (c_NS_isBinder l E _ (by (first | omega | (dsimp only [rN, rC, rF, rG, rH, rA, sN, sC, sI, sD, sO, sA, uN, uF] at *; omega)))) gy_NS_isBinder w_218 n_260 rfl (by decide) (by decide) [] rfl rfl _ rfl (Nat.le_of_ble_eq_true rfl) d_SC_read_92 (show _ + 0 ≤ 6000 by (first | omega | (dsimp only [rN, rC, rF, rG, rH, rA, sN, sC, sI, sD, sO, sA, uN, uF] at *; omega))) (show _ + 0 ≤ 36000 by (first | omega | (dsimp only [rN, rC, rF, rG, rH, rA, sN, sC, sI, sD, sO, sA, uN, uF] at *; omega))) ?_
            refine g_beq (pc := 95) (tgt := 102) hX d_SC_read_95 (by decide) (fun c_12 => ?_) (fun c_12 => ?_)
            · refine g_iload_n (pc := 102) hX 3 d_SC_read_102 rfl rfl ?_
              have hl2 : gin (hd (lastE (rF rc) k (env (rF rc) k))) := by rw [show (hd (lastE (rF rc) k (env (rF rc) k))) = hd (env (rF rc) k) from by unfold lastE; rw [if_neg (show ¬ bP (rF rc k) from c_12)]]; (first | omega | (dsimp only [rN, rC, rF, rG, rH, rA, sN, sC, sI, sD, sO, sA, uN, uF] at *; omega))
              refine g_st (.int (iI (hd (lastE (rF rc) k (env (rF rc) k)))) :: .int (iI ((k + 1 + σ (k + 1) : Nat) : Int)) :: .ref s :: []) (by rw [show (hd (lastE (rF rc) k (env (rF rc) k))) = hd (env (rF rc) k) from by unfold lastE; rw [if_neg (show ¬ bP (rF rc k) from c_12)], show ((k + 1 + σ (k + 1) : Nat) : Int) = (k : Int) + 1 + rS rc ((k : Int) + 1) by (first | omega | (dsimp only [rN, rC, rF, rG, rH, rA, sN, sC, sI, sD, sO, sA, uN, uF] at *; omega))] <;> rfl) ?_
              refine g_callV (pc := 103) hX (c_SC_setInnermost l E s ((sA s_1, rN rc, sC s_1, (uZ I (k + 1) (hd (env (rF rc) k))), uZ D k (((env (rF rc) k).length : Nat) : Int), sO s_1) : ScT) hok3 _ (by (first | omega | (dsimp only [rN, rC, rF, rG, rH, rA, sN, sC, sI, sD, sO, sA, uN, uF] at *; omega))) _ (by (first | omega | (dsimp only [rN, rC, rF, rG, rH, rA, sN, sC, sI, sD, sO, sA, uN, uF] at *; omega)))) gy_SC_setInnermost gv_SC_setInnermost w_246 rfl (by decide) (by decide) [0, 1, 2, 3] rfl rfl rfl rfl rfl _ rfl (Nat.le_of_ble_eq_true rfl) d_SC_read_103 (show _ + 0 ≤ 6000 by (first | omega | (dsimp only [rN, rC, rF, rG, rH, rA, sN, sC, sI, sD, sO, sA, uN, uF] at *; omega))) (show _ + 0 ≤ 36000 by (first | omega | (dsimp only [rN, rC, rF, rG, rH, rA, sN, sC, sI, sD, sO, sA, uN, uF] at *; omega))) (fun _ _ _ _ h => by obtain ⟨_, _, h2, _⟩ := h; rw [h2]; exact Nat.le_of_ble_eq_true rfl) (fun v w dc_13 ds_13 hp => ?_)
              obtain ⟨s_13, rfl, rfl, sk_13, f_13⟩ := hp
              refine g_wsP (scW E s s_13 ++ rowW E r rc) rfl rfl ?_
              obtain ⟨rfl, rfl, rfl⟩ := f_13
              refine g_ws (scW E s ((sA s_1, rN rc, sC s_1, (uZ (uZ I (k + 1) (hd (env (rF rc) k))) (k + 1 + σ (k + 1)) (hd (lastE (rF rc) k (env (rF rc) k)))), uZ D k (((env (rF rc) k).length : Nat) : Int), sO s_1) : ScT) ++ rowW E r rc) (by rw [show (if (0 : Int) ≤ ((k + 1 + σ (k + 1) : Nat) : Int) ∧ ((k + 1 + σ (k + 1) : Nat) : Int) < sN ((sA s_1, rN rc, sC s_1, (uZ I (k + 1) (hd (env (rF rc) k))), uZ D k (((env (rF rc) k).length : Nat) : Int), sO s_1) : ScT) then uZ (sI ((sA s_1, rN rc, sC s_1, (uZ I (k + 1) (hd (env (rF rc) k))), uZ D k (((env (rF rc) k).length : Nat) : Int), sO s_1) : ScT)) (((k + 1 + σ (k + 1) : Nat) : Int)).toNat (hd (lastE (rF rc) k (env (rF rc) k))) else sI ((sA s_1, rN rc, sC s_1, (uZ I (k + 1) (hd (env (rF rc) k))), uZ D k (((env (rF rc) k).length : Nat) : Int), sO s_1) : ScT)) = (uZ (uZ I (k + 1) (hd (env (rF rc) k))) (k + 1 + σ (k + 1)) (hd (lastE (rF rc) k (env (rF rc) k)))) from if_pos (by show (0 : Int) ≤ ((k + 1 + σ (k + 1) : Nat) : Int) ∧ ((k + 1 + σ (k + 1) : Nat) : Int) < (rN rc : Int); (first | omega | (dsimp only [rN, rC, rF, rG, rH, rA, sN, sC, sI, sD, sO, sA, uN, uF] at *; omega)))] <;> rfl) ?_
              refine g_iinc (pc := 106) hX d_SC_read_106 (by decide) rfl ?_
              refine g_goto (pc := 109) (tgt := 24) hX d_SC_read_109 (by decide) ?_
              refine g_lv [(0, .ref s), (1, .ref r), (2, .int (iI ((k + 1 : Nat) : Int)))] ⟨rfl, rfl, rfl, trivial⟩ ?_
              have hDn : ∀ j, j < k + 1 → (uZ D k (((env (rF rc) k).length : Nat) : Int)) j = (((env (rF rc) j).length : Nat) : Int) := by
                intro j hj
                by_cases e : j = k
                · subst e; exact uZ_s
                · rw [uZ_n e]; exact hD j (by (first | omega | (dsimp only [rN, rC, rF, rG, rH, rA, sN, sC, sI, sD, sO, sA, uN, uF] at *; omega)))
              exact ih (k + 1) (uZ (uZ I (k + 1) (hd (env (rF rc) k))) (k + 1 + σ (k + 1)) (hd (lastE (rF rc) k (env (rF rc) k)))) (uZ D k (((env (rF rc) k).length : Nat) : Int)) (by (first | omega | (dsimp only [rN, rC, rF, rG, rH, rA, sN, sC, sI, sD, sO, sA, uN, uF] at *; omega))) (by (first | omega | (dsimp only [rN, rC, rF, rG, rH, rA, sN, sC, sI, sD, sO, sA, uN, uF] at *; omega))) (uZ_gin (uZ_gin hir (by (first | omega | (dsimp only [rN, rC, rF, rG, rH, rA, sN, sC, sI, sD, sO, sA, uN, uF] at *; omega)))) hl2) hd1 (inv2_part hz h0 (by (first | omega | (dsimp only [rN, rC, rF, rG, rH, rA, sN, sC, sI, sD, sO, sA, uN, uF] at *; omega))) hp hI2) hDn
            · refine g_iload_n (pc := 98) hX 2 d_SC_read_98 rfl rfl ?_
              refine g_goto (pc := 99) (tgt := 103) hX d_SC_read_99 (by decide) ?_
              have hl2 : gin (hd (lastE (rF rc) k (env (rF rc) k))) := by rw [show (hd (lastE (rF rc) k (env (rF rc) k))) = (k : Int) from by unfold lastE; rw [if_pos (show bP (rF rc k) from c_12)]; rfl]; (first | omega | (dsimp only [rN, rC, rF, rG, rH, rA, sN, sC, sI, sD, sO, sA, uN, uF] at *; omega))
              refine g_st (.int (iI (hd (lastE (rF rc) k (env (rF rc) k)))) :: .int (iI ((k + 1 + σ (k + 1) : Nat) : Int)) :: .ref s :: []) (by rw [show (hd (lastE (rF rc) k (env (rF rc) k))) = (k : Int) from by unfold lastE; rw [if_pos (show bP (rF rc k) from c_12)]; rfl, show ((k + 1 + σ (k + 1) : Nat) : Int) = (k : Int) + 1 + rS rc ((k : Int) + 1) by (first | omega | (dsimp only [rN, rC, rF, rG, rH, rA, sN, sC, sI, sD, sO, sA, uN, uF] at *; omega))] <;> rfl) ?_
              refine g_callV (pc := 103) hX (c_SC_setInnermost l E s ((sA s_1, rN rc, sC s_1, (uZ I (k + 1) (hd (env (rF rc) k))), uZ D k (((env (rF rc) k).length : Nat) : Int), sO s_1) : ScT) hok3 _ (by (first | omega | (dsimp only [rN, rC, rF, rG, rH, rA, sN, sC, sI, sD, sO, sA, uN, uF] at *; omega))) _ (by (first | omega | (dsimp only [rN, rC, rF, rG, rH, rA, sN, sC, sI, sD, sO, sA, uN, uF] at *; omega)))) gy_SC_setInnermost gv_SC_setInnermost w_246 rfl (by decide) (by decide) [0, 1, 2, 3] rfl rfl rfl rfl rfl _ rfl (Nat.le_of_ble_eq_true rfl) d_SC_read_103 (show _ + 0 ≤ 6000 by (first | omega | (dsimp only [rN, rC, rF, rG, rH, rA, sN, sC, sI, sD, sO, sA, uN, uF] at *; omega))) (show _ + 0 ≤ 36000 by (first | omega | (dsimp only [rN, rC, rF, rG, rH, rA, sN, sC, sI, sD, sO, sA, uN, uF] at *; omega))) (fun _ _ _ _ h => by obtain ⟨_, _, h2, _⟩ := h; rw [h2]; exact Nat.le_of_ble_eq_true rfl) (fun v w dc_14 ds_14 hp => ?_)
              obtain ⟨s_14, rfl, rfl, sk_14, f_14⟩ := hp
              refine g_wsP (scW E s s_14 ++ rowW E r rc) rfl rfl ?_
              obtain ⟨rfl, rfl, rfl⟩ := f_14
              refine g_ws (scW E s ((sA s_1, rN rc, sC s_1, (uZ (uZ I (k + 1) (hd (env (rF rc) k))) (k + 1 + σ (k + 1)) (hd (lastE (rF rc) k (env (rF rc) k)))), uZ D k (((env (rF rc) k).length : Nat) : Int), sO s_1) : ScT) ++ rowW E r rc) (by rw [show (if (0 : Int) ≤ ((k + 1 + σ (k + 1) : Nat) : Int) ∧ ((k + 1 + σ (k + 1) : Nat) : Int) < sN ((sA s_1, rN rc, sC s_1, (uZ I (k + 1) (hd (env (rF rc) k))), uZ D k (((env (rF rc) k).length : Nat) : Int), sO s_1) : ScT) then uZ (sI ((sA s_1, rN rc, sC s_1, (uZ I (k + 1) (hd (env (rF rc) k))), uZ D k (((env (rF rc) k).length : Nat) : Int), sO s_1) : ScT)) (((k + 1 + σ (k + 1) : Nat) : Int)).toNat (hd (lastE (rF rc) k (env (rF rc) k))) else sI ((sA s_1, rN rc, sC s_1, (uZ I (k + 1) (hd (env (rF rc) k))), uZ D k (((env (rF rc) k).length : Nat) : Int), sO s_1) : ScT)) = (uZ (uZ I (k + 1) (hd (env (rF rc) k))) (k + 1 + σ (k + 1)) (hd (lastE (rF rc) k (env (rF rc) k)))) from if_pos (by show (0 : Int) ≤ ((k + 1 + σ (k + 1) : Nat) : Int) ∧ ((k + 1 + σ (k + 1) : Nat) : Int) < (rN rc : Int); (first | omega | (dsimp only [rN, rC, rF, rG, rH, rA, sN, sC, sI, sD, sO, sA, uN, uF] at *; omega)))] <;> rfl) ?_
              refine g_iinc (pc := 106) hX d_SC_read_106 (by decide) rfl ?_
              refine g_goto (pc := 109) (tgt := 24) hX d_SC_read_109 (by decide) ?_
              refine g_lv [(0, .ref s), (1, .ref r), (2, .int (iI ((k + 1 : Nat) : Int)))] ⟨rfl, rfl, rfl, trivial⟩ ?_
              have hDn : ∀ j, j < k + 1 → (uZ D k (((env (rF rc) k).length : Nat) : Int)) j = (((env (rF rc) j).length : Nat) : Int) := by
                intro j hj
                by_cases e : j = k
                · subst e; exact uZ_s
                · rw [uZ_n e]; exact hD j (by (first | omega | (dsimp only [rN, rC, rF, rG, rH, rA, sN, sC, sI, sD, sO, sA, uN, uF] at *; omega)))
              exact ih (k + 1) (uZ (uZ I (k + 1) (hd (env (rF rc) k))) (k + 1 + σ (k + 1)) (hd (lastE (rF rc) k (env (rF rc) k)))) (uZ D k (((env (rF rc) k).length : Nat) : Int)) (by (first | omega | (dsimp only [rN, rC, rF, rG, rH, rA, sN, sC, sI, sD, sO, sA, uN, uF] at *; omega))) (by (first | omega | (dsimp only [rN, rC, rF, rG, rH, rA, sN, sC, sI, sD, sO, sA, uN, uF] at *; omega))) (uZ_gin (uZ_gin hir (by (first | omega | (dsimp only [rN, rC, rF, rG, rH, rA, sN, sC, sI, sD, sO, sA, uN, uF] at *; omega)))) hl2) hd1 (inv2_part hz h0 (by (first | omega | (dsimp only [rN, rC, rF, rG, rH, rA, sN, sC, sI, sD, sO, sA, uN, uF] at *; omega))) hp hI2) hDn
  refine g_lv [(0, .ref s), (1, .ref r), (2, .int (iI ((0 : Nat) : Int)))] ⟨rfl, rfl, rfl, trivial⟩ ?_
  exact loop (rN rc + 1) 0 (uZ (sI s_1) 0 (-1)) (sD s_1) (by (first | omega | (dsimp only [rN, rC, rF, rG, rH, rA, sN, sC, sI, sD, sO, sA, uN, uF] at *; omega))) (by (first | omega | (dsimp only [rN, rC, rF, rG, rH, rA, sN, sC, sI, sD, sO, sA, uN, uF] at *; omega))) (uZ_gin si1 (by decide)) sd1 (fun j hj hw => by
    rcases hw with hw | ⟨p, h1, -⟩
    · subst hw; rfl
    · (first | omega | (dsimp only [rN, rC, rF, rG, rH, rA, sN, sC, sI, sD, sO, sA, uN, uF] at *; omega))) (fun j hj => by (first | omega | (dsimp only [rN, rC, rF, rG, rH, rA, sN, sC, sI, sD, sO, sA, uN, uF] at *; omega)))
  
