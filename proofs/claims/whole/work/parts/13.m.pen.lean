abbrev rm_PN_putNode : Room := { frames := 4, cells := 6000, slots := 36000, locals := 93 }
set_option maxHeartbeats 4000000 in
set_option maxRecDepth 100000 in
theorem c_PN_putNode (l : Launch) (E : gE) (n s : Nat) (nc : PnT) (nk : pnOK nc) (g : Nat) (gc : GlT) (gk : glOK gc) (sc : ScT) (sk : scOK sc) (t : Nat) (tc : RowT) (tk : rowOK tc) (p : Nat) (pc : RowT) (pk : rowOK pc) (k : Nat) (σ : Nat → Nat) (hm : mea tc σ) (hs : scFor sc tc) (hk : k < rN tc) (hmt : mat (sO sc) (env (rF tc) k)) (hcl : clo (rF tc) (rG tc) (uN gc) k) (hca : 200 + rN tc ≤ pC nc) (hpk : rN pc = k) : Ct l E y_PN_putNode b_PN_putNode 9 none rm_PN_putNode [.ref n, .int (iI (k : Int)), .ref t, .ref g, .ref p] (pnW E n s nc ++ glW E g gc ++ scW E s sc ++ rowW E t tc ++ rowW E p pc) (fun vv ww dc ds => ∃ π ρ, vv = none ∧ ww = pnW E n s π ++ glW E g gc ++ scW E s sc ++ rowW E t tc ++ rowW E p ρ ∧ pnOK π ∧ rowOK ρ ∧ pC π = pC nc ∧ pX π = (if 0 ≤ useP (rF tc) (rG tc) k then uZ (pX nc) (useP (rF tc) (rG tc) k).toNat (pX nc (200 + k)) else pX nc) ∧ rL ρ = rL pc ++ [wNode (rF tc) (rG tc) (pX nc) (uF gc) (rG pc) k] ∧ rGrow pc ρ dc ds) := by
  obtain ⟨⟨n1, n2, n3⟩, nx, ny, nz, nu⟩ := id nk
  obtain ⟨g1, g2⟩ := id gk
  obtain ⟨⟨s1, s2, s3, s4⟩, si, sd, so⟩ := id sk
  obtain ⟨⟨t1, t2, t3, t4⟩, tf, tg, th⟩ := id tk
  obtain ⟨⟨p1, p2, p3, p4⟩, pf, pg, ph⟩ := id pk
  have ed := hs.d hk
  have zs := hs.1
  have dk : dep (rF tc) k ≤ k := env_le hm.1 hm.2.1 hk
  have e1 : rK tc (k : Int) = rF tc k := rK_t (by omega)
  have e2 : rB tc (k : Int) = rG tc k := rB_t (by omega)
  have r1 := tf k
  have r2 := tg k
  obtain ⟨l1, l2⟩ := id hcl
  have hcl2 : clo (rF tc) (rG tc) 200 k := ⟨l1, fun q => by have := l2 q; omega⟩
  have hx2 := pX0_in nk (200 + (k : Int))
  have hx3 : pX0 nc (200 + (k : Int)) = pX nc (200 + k) := by rw [pX0_t (by omega)]; congr 1
  refine g_start (by decide) (Nat.le_of_ble_eq_true rfl) (fun X hX hE hin => ?_)
  refine g_aload_n (pc := 0) hX 2 d_PN_putNode_0 rfl rfl ?_
  refine g_iload_n (pc := 1) hX 1 d_PN_putNode_1 rfl rfl ?_
  refine g_iV (pc := 2) hX (c_RW_kind l E t tc tk _ (by omega)) gy_RW_kind gv_RW_kind w_367 rfl (by decide) (by decide) [11, 12, 13, 14] rfl (by decide +kernel) rfl rfl rfl _ rfl (Nat.le_of_ble_eq_true rfl) d_PN_putNode_2 (show _ + 0 ≤ 6000 by omega) (show _ + 0 ≤ 36000 by omega) ?_
  rw [e1]
  refine g_istore (pc := 5) hX d_PN_putNode_5 (by decide) ?_
  refine g_aload_n (pc := 7) hX 2 d_PN_putNode_7 rfl rfl ?_
  refine g_iload_n (pc := 8) hX 1 d_PN_putNode_8 rfl rfl ?_
  refine g_lV (pc := 9) hX (c_RW_beside l E t tc tk _ (by omega)) gy_RW_beside gv_RW_beside w_368 rfl (by decide) (by decide) [11, 12, 13, 14] rfl (by decide +kernel) rfl rfl rfl _ rfl (Nat.le_of_ble_eq_true rfl) d_PN_putNode_9 (show _ + 0 ≤ 6000 by omega) (show _ + 0 ≤ 36000 by omega) ?_
  rw [e2]
  refine g_lstore (pc := 12) hX d_PN_putNode_12 (by decide) ?_
  refine g_iload (pc := 14) hX d_PN_putNode_14 rfl ?_
  by_cases e_0 : rF tc k = 0
  · have hkc : rF tc k = 0 := e_0
    refine g_lsw (pc := 16) (tgt := 52) (off := 36) hX d_PN_putNode_16 (by decide) (by omega) (by rw [hkc]; rfl) (by decide) ?_
    obtain ⟨w1, w2⟩ := l1 (by omega)
    obtain ⟨u1, u2⟩ := hs.op sk hm hk hmt (i := (rG tc k).toNat) (by omega)
    rw [show (((rG tc k).toNat : Nat) : Int) = rG tc k by omega] at u1
    have r4 := pg ((env (rF tc) k).getD (rG tc k).toNat 0)
    refine g_aload (pc := 52) hX d_PN_putNode_52 rfl ?_
    refine g_iconst (pc := 54) hX d_PN_putNode_54 ?_
    refine g_aload (pc := 55) hX d_PN_putNode_55 rfl ?_
    refine g_aload_n (pc := 57) hX 0 d_PN_putNode_57 rfl rfl ?_
    refine g_get (pc := 58) hX f_PN_12 0 rfl rfl d_PN_putNode_58 ?_
    refine g_iload_n (pc := 61) hX 1 d_PN_putNode_61 rfl rfl ?_
    refine g_lload (pc := 62) hX d_PN_putNode_62 rfl ?_
    refine g_iV (pc := 64) hX (c_SC_binderOf l E s sc sk _ (by omega) _ (by omega) (by omega)) gy_SC_binderOf gv_SC_binderOf w_369 rfl (by decide) (by decide) [7, 8, 9, 10] rfl (by decide +kernel) rfl rfl rfl _ rfl (Nat.le_of_ble_eq_true rfl) d_PN_putNode_64 (show _ + 0 ≤ 6000 by omega) (show _ + 0 ≤ 36000 by omega) ?_
    rw [ed, u1]
    refine g_lV (pc := 67) hX (c_RW_beside l E p pc pk _ (by omega)) gy_RW_beside gv_RW_beside w_368 rfl (by decide) (by decide) [15, 16, 17, 18] rfl (by decide +kernel) rfl rfl rfl _ rfl (Nat.le_of_ble_eq_true rfl) d_PN_putNode_67 (show _ + 0 ≤ 6000 by omega) (show _ + 0 ≤ 36000 by omega) ?_
    rw [show rB pc (((env (rF tc) k).getD (rG tc k).toNat 0 : Nat) : Int) = rG pc ((env (rF tc) k).getD (rG tc k).toNat 0) from rB_t (by omega)]
    refine g_callV (pc := 70) hX (c_RW_add l E p pc pk _ (by omega) _ (by omega) (by omega)) gy_RW_add gv_RW_add w_427 rfl (by decide) (by decide) [15, 16, 17, 18] rfl (by decide +kernel) rfl rfl rfl _ rfl (Nat.le_of_ble_eq_true rfl) d_PN_putNode_70 (show _ + 6000 ≤ 6000 by omega) (show _ + 36000 ≤ 36000 by omega) (fun _ _ _ _ h => by obtain ⟨_, _, h2, _⟩ := h; rw [h2]; exact Nat.le_of_ble_eq_true rfl) (fun v w dc_1 ds_1 hp => ?_)
    obtain ⟨p_1, rfl, rfl, pk_1, f_1⟩ := hp
    refine g_wsP (pnW E n s nc ++ glW E g gc ++ scW E s sc ++ rowW E t tc ++ rowW E p p_1) rfl rfl ?_
    obtain ⟨d1, d2, d3, d4, d5⟩ := f_1
    obtain ⟨⟨x1, x2, x3, x4⟩, -⟩ := id pk_1
    refine g_aload_n (pc := 73) hX 0 d_PN_putNode_73 rfl rfl ?_
    refine g_iload_n (pc := 74) hX 1 d_PN_putNode_74 rfl rfl ?_
    refine g_aload_n (pc := 75) hX 2 d_PN_putNode_75 rfl rfl ?_
    refine g_callV (pc := 76) hX (c_PN_passUse l E n s nc nk sc sk t tc tk k σ hm hs hk hmt hcl2 hca) gy_PN_passUse gv_PN_passUse w_428 rfl (by decide) (by decide) [0, 1, 2, 3, 4, 7, 8, 9, 10, 11, 12, 13, 14] rfl (by decide +kernel) rfl rfl rfl _ rfl (Nat.le_of_ble_eq_true rfl) d_PN_putNode_76 (show _ + 0 ≤ 6000 by omega) (show _ + 0 ≤ 36000 by omega) (fun _ _ _ _ h => by obtain ⟨_, _, h2, _⟩ := h; rw [h2]; exact Nat.le_of_ble_eq_true rfl) (fun v w dc_2 ds_2 hp => ?_)
    obtain ⟨n_2, rfl, rfl, nk_2, f_2_1, rfl, rfl⟩ := hp
    refine g_wsP (pnW E n s n_2 ++ glW E g gc ++ scW E s sc ++ rowW E t tc ++ rowW E p p_1) rfl rfl ?_
    refine g_goto (pc := 79) (tgt := 154) hX d_PN_putNode_79 (by decide) ?_
    exact g_vret (pc := 154) hX hE d_PN_putNode_154 (show _ ≤ 6000 by omega) (show _ ≤ 36000 by omega) ⟨n_2, p_1, rfl, rfl, nk_2, pk_1, by rw [f_2_1], by rw [f_2_1], by rw [d1]; unfold wNode; rw [if_pos (by omega)], by rw [Nat.zero_add, Nat.zero_add]; exact ⟨d3, d4, d5⟩⟩
  by_cases e_2 : rF tc k = 2
  · have hkc : rF tc k = 2 := e_2
    refine g_lsw (pc := 16) (tgt := 103) (off := 87) hX d_PN_putNode_16 (by decide) (by omega) (by rw [hkc]; rfl) (by decide) ?_
    refine g_aload_n (pc := 103) hX 0 d_PN_putNode_103 rfl rfl ?_
    refine g_sipush (pc := 104) hX 200 d_PN_putNode_104 (by decide) ?_
    refine g_iload_n (pc := 107) hX 1 d_PN_putNode_107 rfl rfl ?_
    refine g_iadd (pc := 108) hX d_PN_putNode_108 ?_
    refine g_iV (pc := 109) hX (c_PN_nextOf l E n s nc nk _ (by omega)) gy_PN_nextOf gv_PN_nextOf w_394 rfl (by decide) (by decide) [0, 1, 2, 3, 4] rfl (by decide +kernel) rfl rfl rfl _ rfl (Nat.le_of_ble_eq_true rfl) d_PN_putNode_109 (show _ + 0 ≤ 6000 by omega) (show _ + 0 ≤ 36000 by omega) ?_
    rw [hx3] at hx2 ⊢
    refine g_sipush (pc := 112) hX 3000 d_PN_putNode_112 (by decide) ?_
    refine g_icmp_eq (pc := 115) (tgt := 122) hX d_PN_putNode_115 (by decide) (by omega) (by omega) (fun c_3 => ?_) (fun c_3 => ?_)
    · refine g_iconst (pc := 122) hX d_PN_putNode_122 ?_
      refine g_istore (pc := 123) hX d_PN_putNode_123 (by decide) ?_
      refine g_aload (pc := 125) hX d_PN_putNode_125 rfl ?_
      refine g_iload (pc := 127) hX d_PN_putNode_127 rfl ?_
      refine g_if_eq (pc := 129) (tgt := 136) hX d_PN_putNode_129 (by decide) (by decide) (fun c_4 => ?_) (fun c_4 => ?_)
      · refine g_bipush (pc := 136) hX 6 d_PN_putNode_136 (by decide) ?_
        refine g_lconst (pc := 138) hX 0 d_PN_putNode_138 (by decide) ?_
        refine g_callV (pc := 139) hX (c_RW_add l E p pc pk _ (by omega) _ (by omega) (by omega)) gy_RW_add gv_RW_add w_427 rfl (by decide) (by decide) [15, 16, 17, 18] rfl (by decide +kernel) rfl rfl rfl _ rfl (Nat.le_of_ble_eq_true rfl) d_PN_putNode_139 (show _ + 6000 ≤ 6000 by omega) (show _ + 36000 ≤ 36000 by omega) (fun _ _ _ _ h => by obtain ⟨_, _, h2, _⟩ := h; rw [h2]; exact Nat.le_of_ble_eq_true rfl) (fun v w dc_5 ds_5 hp => ?_)
        obtain ⟨p_5, rfl, rfl, pk_5, f_5⟩ := hp
        refine g_wsP (pnW E n s nc ++ glW E g gc ++ scW E s sc ++ rowW E t tc ++ rowW E p p_5) rfl rfl ?_
        obtain ⟨d1, d2, d3, d4, d5⟩ := f_5
        obtain ⟨⟨x1, x2, x3, x4⟩, -⟩ := id pk_5
        refine g_goto (pc := 142) (tgt := 154) hX d_PN_putNode_142 (by decide) ?_
        exact g_vret (pc := 154) hX hE d_PN_putNode_154 (show _ ≤ 6000 by omega) (show _ ≤ 36000 by omega) ⟨nc, p_5, rfl, rfl, nk, pk_5, rfl, by rw [if_neg (by unfold useP; rw [if_neg (by omega), if_neg (by omega)]; decide)], by rw [d1]; unfold wNode; rw [if_neg (by omega), if_neg (by omega), if_pos (by omega), if_pos (by omega)], by rw [Nat.zero_add, Nat.zero_add]; exact ⟨d3, d4, d5⟩⟩
      · exact absurd (by decide) c_4
    · refine g_iconst (pc := 118) hX d_PN_putNode_118 ?_
      refine g_goto (pc := 119) (tgt := 123) hX d_PN_putNode_119 (by decide) ?_
      refine g_istore (pc := 123) hX d_PN_putNode_123 (by decide) ?_
      refine g_aload (pc := 125) hX d_PN_putNode_125 rfl ?_
      refine g_iload (pc := 127) hX d_PN_putNode_127 rfl ?_
      refine g_if_eq (pc := 129) (tgt := 136) hX d_PN_putNode_129 (by decide) (by decide) (fun c_6 => ?_) (fun c_6 => ?_)
      · exact absurd c_6 (by decide)
      · refine g_iconst (pc := 132) hX d_PN_putNode_132 ?_
        refine g_goto (pc := 133) (tgt := 138) hX d_PN_putNode_133 (by decide) ?_
        refine g_lconst (pc := 138) hX 0 d_PN_putNode_138 (by decide) ?_
        refine g_callV (pc := 139) hX (c_RW_add l E p pc pk _ (by omega) _ (by omega) (by omega)) gy_RW_add gv_RW_add w_427 rfl (by decide) (by decide) [15, 16, 17, 18] rfl (by decide +kernel) rfl rfl rfl _ rfl (Nat.le_of_ble_eq_true rfl) d_PN_putNode_139 (show _ + 6000 ≤ 6000 by omega) (show _ + 36000 ≤ 36000 by omega) (fun _ _ _ _ h => by obtain ⟨_, _, h2, _⟩ := h; rw [h2]; exact Nat.le_of_ble_eq_true rfl) (fun v w dc_7 ds_7 hp => ?_)
        obtain ⟨p_7, rfl, rfl, pk_7, f_7⟩ := hp
        refine g_wsP (pnW E n s nc ++ glW E g gc ++ scW E s sc ++ rowW E t tc ++ rowW E p p_7) rfl rfl ?_
        obtain ⟨d1, d2, d3, d4, d5⟩ := f_7
        obtain ⟨⟨x1, x2, x3, x4⟩, -⟩ := id pk_7
        refine g_goto (pc := 142) (tgt := 154) hX d_PN_putNode_142 (by decide) ?_
        exact g_vret (pc := 154) hX hE d_PN_putNode_154 (show _ ≤ 6000 by omega) (show _ ≤ 36000 by omega) ⟨nc, p_7, rfl, rfl, nk, pk_7, rfl, by rw [if_neg (by unfold useP; rw [if_neg (by omega), if_neg (by omega)]; decide)], by rw [d1]; unfold wNode; rw [if_neg (by omega), if_neg (by omega), if_pos (by omega), if_neg (by omega)], by rw [Nat.zero_add, Nat.zero_add]; exact ⟨d3, d4, d5⟩⟩
  by_cases e_7 : rF tc k = 7
  · have hkc : rF tc k = 7 := e_7
    refine g_lsw (pc := 16) (tgt := 82) (off := 66) hX d_PN_putNode_16 (by decide) (by omega) (by rw [hkc]; rfl) (by decide) ?_
    obtain ⟨w1, w2⟩ := l2 (by omega)
    have r4 := g2 (rG tc k).toNat
    refine g_aload (pc := 82) hX d_PN_putNode_82 rfl ?_
    refine g_iconst (pc := 84) hX d_PN_putNode_84 ?_
    refine g_aload_n (pc := 85) hX 3 d_PN_putNode_85 rfl rfl ?_
    refine g_lload (pc := 86) hX d_PN_putNode_86 rfl ?_
    refine g_lV (pc := 88) hX (c_GL_name l E g gc gk _ (by omega)) gy_GL_name gv_GL_name w_398 rfl (by decide) (by decide) [5, 6] rfl (by decide +kernel) rfl rfl rfl _ rfl (Nat.le_of_ble_eq_true rfl) d_PN_putNode_88 (show _ + 0 ≤ 6000 by omega) (show _ + 0 ≤ 36000 by omega) ?_
    rw [show (if 0 ≤ rG tc k ∧ rG tc k < uN gc then uF gc (rG tc k).toNat else 0) = uF gc (rG tc k).toNat from if_pos (by omega)]
    refine g_callV (pc := 91) hX (c_RW_add l E p pc pk _ (by omega) _ (by omega) (by omega)) gy_RW_add gv_RW_add w_427 rfl (by decide) (by decide) [15, 16, 17, 18] rfl (by decide +kernel) rfl rfl rfl _ rfl (Nat.le_of_ble_eq_true rfl) d_PN_putNode_91 (show _ + 6000 ≤ 6000 by omega) (show _ + 36000 ≤ 36000 by omega) (fun _ _ _ _ h => by obtain ⟨_, _, h2, _⟩ := h; rw [h2]; exact Nat.le_of_ble_eq_true rfl) (fun v w dc_8 ds_8 hp => ?_)
    obtain ⟨p_8, rfl, rfl, pk_8, f_8⟩ := hp
    refine g_wsP (pnW E n s nc ++ glW E g gc ++ scW E s sc ++ rowW E t tc ++ rowW E p p_8) rfl rfl ?_
    obtain ⟨d1, d2, d3, d4, d5⟩ := f_8
    obtain ⟨⟨x1, x2, x3, x4⟩, -⟩ := id pk_8
    refine g_aload_n (pc := 94) hX 0 d_PN_putNode_94 rfl rfl ?_
    refine g_iload_n (pc := 95) hX 1 d_PN_putNode_95 rfl rfl ?_
    refine g_aload_n (pc := 96) hX 2 d_PN_putNode_96 rfl rfl ?_
    refine g_callV (pc := 97) hX (c_PN_passUse l E n s nc nk sc sk t tc tk k σ hm hs hk hmt hcl2 hca) gy_PN_passUse gv_PN_passUse w_428 rfl (by decide) (by decide) [0, 1, 2, 3, 4, 7, 8, 9, 10, 11, 12, 13, 14] rfl (by decide +kernel) rfl rfl rfl _ rfl (Nat.le_of_ble_eq_true rfl) d_PN_putNode_97 (show _ + 0 ≤ 6000 by omega) (show _ + 0 ≤ 36000 by omega) (fun _ _ _ _ h => by obtain ⟨_, _, h2, _⟩ := h; rw [h2]; exact Nat.le_of_ble_eq_true rfl) (fun v w dc_9 ds_9 hp => ?_)
    obtain ⟨n_9, rfl, rfl, nk_9, f_9_1, rfl, rfl⟩ := hp
    refine g_wsP (pnW E n s n_9 ++ glW E g gc ++ scW E s sc ++ rowW E t tc ++ rowW E p p_8) rfl rfl ?_
    refine g_goto (pc := 100) (tgt := 154) hX d_PN_putNode_100 (by decide) ?_
    exact g_vret (pc := 154) hX hE d_PN_putNode_154 (show _ ≤ 6000 by omega) (show _ ≤ 36000 by omega) ⟨n_9, p_8, rfl, rfl, nk_9, pk_8, by rw [f_9_1], by rw [f_9_1], by rw [d1]; unfold wNode; rw [if_neg (by omega), if_pos (by omega)], by rw [Nat.zero_add, Nat.zero_add]; exact ⟨d3, d4, d5⟩⟩
  refine g_lsw (pc := 16) (tgt := 145) (off := 129) hX d_PN_putNode_16 (by decide) (by omega) (by simp [Op.lookupswitch.offset_cons, Op.lookupswitch.offset, Ne.symm e_0, e_0, Ne.symm e_2, e_2, Ne.symm e_7, e_7]) (by decide) ?_
  refine g_aload (pc := 145) hX d_PN_putNode_145 rfl ?_
  refine g_iload (pc := 147) hX d_PN_putNode_147 rfl ?_
  refine g_lload (pc := 149) hX d_PN_putNode_149 rfl ?_
  refine g_callV (pc := 151) hX (c_RW_add l E p pc pk _ (by omega) _ (by omega) (by omega)) gy_RW_add gv_RW_add w_427 rfl (by decide) (by decide) [15, 16, 17, 18] rfl (by decide +kernel) rfl rfl rfl _ rfl (Nat.le_of_ble_eq_true rfl) d_PN_putNode_151 (show _ + 6000 ≤ 6000 by omega) (show _ + 36000 ≤ 36000 by omega) (fun _ _ _ _ h => by obtain ⟨_, _, h2, _⟩ := h; rw [h2]; exact Nat.le_of_ble_eq_true rfl) (fun v w dc_10 ds_10 hp => ?_)
  obtain ⟨p_10, rfl, rfl, pk_10, f_10⟩ := hp
  refine g_wsP (pnW E n s nc ++ glW E g gc ++ scW E s sc ++ rowW E t tc ++ rowW E p p_10) rfl rfl ?_
  obtain ⟨d1, d2, d3, d4, d5⟩ := f_10
  obtain ⟨⟨x1, x2, x3, x4⟩, -⟩ := id pk_10
  exact g_vret (pc := 154) hX hE d_PN_putNode_154 (show _ ≤ 6000 by omega) (show _ ≤ 36000 by omega) ⟨nc, p_10, rfl, rfl, nk, pk_10, rfl, by rw [if_neg (by unfold useP; rw [if_neg (by omega), if_neg (by omega)]; decide)], by rw [d1]; unfold wNode; rw [if_neg (by omega), if_neg (by omega), if_neg (by omega)], by rw [Nat.zero_add, Nat.zero_add]; exact ⟨d3, d4, d5⟩⟩

abbrev rm_PN_init : Room := { frames := 2, cells := 8, slots := 916, locals := 40 }
set_option maxHeartbeats 4000000 in
set_option maxRecDepth 100000 in
theorem c_PN_init (l : Launch) (E : gE) (n : Nat) : Ct l E y_PN_init b_PN_init 1 none rm_PN_init [.ref n] ([(n, .inr (1, [.null, .null, .null, .null, .null, .int 0]))]) (fun vv ww dc ds => ∃ (s : Nat) (π : PnT) (ς : ScT), vv = none ∧ ww = pnW E n s π ++ scW E s ς ∧ pnOK π ∧ scOK ς ∧ (pC π = 216 ∧ pM π = 0 ∧ dc = 8 ∧ ds = 916)) := by
  refine g_start (by decide) (Nat.le_of_ble_eq_true rfl) (fun X hX hE hin => ?_)
  replace hin := hin rfl
  refine g_aload_n (pc := 0) hX 0 d_PN_init_0 rfl rfl ?_
  refine g_objInit (pc := 1) hX w_77 w_17 w_18 (by decide) (by decide) (Nat.le_of_ble_eq_true rfl) d_PN_init_1 ?_
  refine g_aload_n (pc := 4) hX 0 d_PN_init_4 rfl rfl ?_
  refine g_new (pc := 5) hX in_SC gt_SC w_78 w_54 w_4 (ci := 3) rfl [.int 0, .null, .null, .null] (fun j hj => by rcases j with _ | _ | _ | _ | j <;> first | rfl | omega) (by decide) (by decide) d_PN_init_5 (fun s => ?_)
  refine g_ws ([(n, .inr (1, [.null, .null, .null, .null, .null, .int 0])), (s, .inr (3, [.int 0, .null, .null, .null]))]) rfl ?_
  refine g_dup (pc := 8) hX d_PN_init_8 rfl ?_
  refine g_callIN (pc := 9) hX (c_SC_init l E s) gy_SC_init rfl w_56 n_79 rfl (by decide) (by decide) [1] rfl rfl _ rfl (Nat.le_of_ble_eq_true rfl) d_PN_init_9 (by decide) (by decide) (fun _ _ _ _ h => by obtain ⟨_, _, h2, _⟩ := h; rw [h2]; exact Nat.le_of_ble_eq_true rfl) (fun v w dc ds hp => ?_)
  obtain ⟨sc, rfl, rfl, sk, se1, se2, rfl, rfl⟩ := hp
  refine g_ws ([(n, .inr (1, [.null, .null, .null, .null, .null, .int 0])), (s, .inr (3, [.int (iI (sN sc)), .ref (sA sc).1, .ref (sA sc).2.1, .ref (sA sc).2.2])), ((sA sc).1, aI E (sC sc) (sI sc)), ((sA sc).2.1, aI E (sC sc) (sD sc)), ((sA sc).2.2, aI E (sC sc) (sO sc))]) rfl ?_
  refine g_putF (pc := 12) hX hin f_PN_12 gt_PN 0 rfl rfl rfl rfl rfl (Nat.le_of_ble_eq_true rfl) d_PN_init_12 ?_
  refine g_ws ([(n, .inr (1, [.ref s, .null, .null, .null, .null, .int 0])), (s, .inr (3, [.int (iI (sN sc)), .ref (sA sc).1, .ref (sA sc).2.1, .ref (sA sc).2.2])), ((sA sc).1, aI E (sC sc) (sI sc)), ((sA sc).2.1, aI E (sC sc) (sD sc)), ((sA sc).2.2, aI E (sC sc) (sO sc))]) rfl ?_
  refine g_aload_n (pc := 15) hX 0 d_PN_init_15 rfl rfl ?_
  refine g_sipush (pc := 16) hX 216 d_PN_init_16 (by decide) ?_
  refine g_newI (pc := 19) hX w_52 (by omega) (by omega) (by decide) (by decide) d_PN_init_19 (fun q19 => ?_)
  refine g_put (pc := 21) hX f_PN_18 gt_PN 0 rfl rfl rfl rfl (Nat.le_of_ble_eq_true rfl) d_PN_init_21 ?_
  refine g_aload_n (pc := 24) hX 0 d_PN_init_24 rfl rfl ?_
  refine g_sipush (pc := 25) hX 216 d_PN_init_25 (by decide) ?_
  refine g_newI (pc := 28) hX w_52 (by omega) (by omega) (by decide) (by decide) d_PN_init_28 (fun q28 => ?_)
  refine g_put (pc := 30) hX f_PN_22 gt_PN 0 rfl rfl rfl rfl (Nat.le_of_ble_eq_true rfl) d_PN_init_30 ?_
  refine g_aload_n (pc := 33) hX 0 d_PN_init_33 rfl rfl ?_
  refine g_sipush (pc := 34) hX 216 d_PN_init_34 (by decide) ?_
  refine g_newL (pc := 37) hX w_32 (by omega) (by omega) (by decide) (by decide) d_PN_init_37 (fun q37 => ?_)
  refine g_put (pc := 39) hX f_PN_25 gt_PN 0 rfl rfl rfl rfl (Nat.le_of_ble_eq_true rfl) d_PN_init_39 ?_
  refine g_aload_n (pc := 42) hX 0 d_PN_init_42 rfl rfl ?_
  refine g_sipush (pc := 43) hX 216 d_PN_init_43 (by decide) ?_
  refine g_newZ (pc := 46) hX w_99 (by omega) (by omega) (by decide) (by decide) d_PN_init_46 (fun q46 => ?_)
  refine g_put (pc := 48) hX f_PN_29 gt_PN 0 rfl rfl rfl rfl (Nat.le_of_ble_eq_true rfl) d_PN_init_48 ?_
  refine g_aload_n (pc := 51) hX 0 d_PN_init_51 rfl rfl ?_
  refine g_iconst (pc := 52) hX d_PN_init_52 ?_
  refine g_put (pc := 53) hX f_PN_33 gt_PN 0 rfl rfl rfl rfl (Nat.le_of_ble_eq_true rfl) d_PN_init_53 ?_
  refine g_sub (pnW E n s (((q19, q28, q37, q46), 216, fun _ => 0, fun _ => 0, fun _ => 0, fun _ => 0, 0) : PnT) ++ scW E s sc) [0, 5, 6, 7, 8, 1, 2, 3, 4] rfl rfl ?_
  exact g_vret (pc := 56) hX hE d_PN_init_56 (by decide) (by decide) ⟨_, _, _, rfl, rfl, ⟨⟨by show (216 : Nat) ≤ 216; decide, by show (216 : Nat) ≤ 6400; decide, by show (0 : Nat) ≤ 216; decide⟩, fun _ => gin0, fun _ => gin0, fun _ => ⟨by show (-9223372036854775808 : Int) ≤ 0; decide, by show (0 : Int) < 9223372036854775808; decide⟩, fun _ => gin0⟩, sk, rfl, rfl, rfl, rfl⟩
