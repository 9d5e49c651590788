abbrev rm_PN_putNode : Room := { frames := 4, cells := 6000, slots := 36000, locals := 93 }
set_option maxHeartbeats 4000000 in
set_option maxRecDepth 100000 in
theorem c_PN_putNode (l : Launch) (E : gE) (n g s : Nat) (nc : PnT) (nk : pnOK nc) (gc : GlT) (gk : glOK gc) (sc : ScT) (sk : scOK sc) (t : Nat) (tc : RowT) (tk : rowOK tc) (p : Nat) (pc : RowT) (pk : rowOK pc) (k : Nat) (σ : Nat → Nat) (hm : mea tc σ) (hs : scFor sc tc) (hk : k < rN tc) (hmt : mat (sO sc) (env (rF tc) k)) (hcl : clo (rF tc) (rG tc) (uN gc) k) (hca : 200 + rN tc ≤ pC nc) (hpk : rN pc = k) : Ct l E y_PN_putNode b_PN_putNode 8 none rm_PN_putNode [.ref n, .int (iI (k : Int)), .ref t, .ref p] (pnW E n g s nc ++ glW E g gc ++ scW E s sc ++ rowW E t tc ++ rowW E p pc) (fun vv ww dc ds => ∃ π ρ, vv = none ∧ ww = pnW E n g s π ++ glW E g gc ++ scW E s sc ++ rowW E t tc ++ rowW E p ρ ∧ pnOK π ∧ rowOK ρ ∧ pC π = pC nc ∧ pX π = (if 0 ≤ useP (rF tc) (rG tc) k then uZ (pX nc) (useP (rF tc) (rG tc) k).toNat (pX nc (200 + k)) else pX nc) ∧ rL ρ = rL pc ++ [wNode (rF tc) (rG tc) (pX nc) (uF gc) (rG pc) k] ∧ rGrow pc ρ dc ds) := by
  obtain ⟨⟨n1, n2, n3⟩, nx, ny, nz, nu⟩ := id nk
  obtain ⟨g1, g2⟩ := id gk
  obtain ⟨⟨s1, s2, s3, s4⟩, si, sd, so⟩ := id sk
  obtain ⟨⟨t1, t2, t3, t4⟩, tf, tg, th⟩ := id tk
  obtain ⟨⟨p1, p2, p3, p4⟩, pf, pg, ph⟩ := id pk
  have ed := hs.d hk
  have zs := hs.1
  have dk : dep (rF tc) k ≤ k := env_le hm.1 hm.2.1 hk
  have e1 : rK tc (k : Int) = rF tc k := rK_t (by omega)
  have e2 : rB tc (k : Int) = rG tc k := rB_t (by omega)
  have r1 := tf k
  have r2 := tg k
  obtain ⟨l1, l2⟩ := id hcl
  have hcl2 : clo (rF tc) (rG tc) 200 k := ⟨l1, fun q => by have := l2 q; omega⟩
  have hx2 := pX0_in nk (200 + (k : Int))
  have hx3 : pX0 nc (200 + (k : Int)) = pX nc (200 + k) := by rw [pX0_t (by omega)]; congr 1
  refine g_start (by decide) (Nat.le_of_ble_eq_true rfl) (fun X hX hE hin => ?_)
  refine g_aload_n (pc := 0) hX 2 d_PN_putNode_0 rfl rfl ?_
  refine g_iload_n (pc := 1) hX 1 d_PN_putNode_1 rfl rfl ?_
  refine g_iV (pc := 2) hX (c_RW_kind l E t tc tk _ (by omega)) gy_RW_kind gv_RW_kind w_369 rfl (by decide) (by decide) [11, 12, 13, 14] rfl (by decide +kernel) rfl rfl rfl _ rfl (Nat.le_of_ble_eq_true rfl) d_PN_putNode_2 (show _ + 0 ≤ 6000 by omega) (show _ + 0 ≤ 36000 by omega) ?_
  rw [e1]
  refine g_istore (pc := 5) hX d_PN_putNode_5 (by decide) ?_
  refine g_aload_n (pc := 7) hX 2 d_PN_putNode_7 rfl rfl ?_
  refine g_iload_n (pc := 8) hX 1 d_PN_putNode_8 rfl rfl ?_
  refine g_lV (pc := 9) hX (c_RW_beside l E t tc tk _ (by omega)) gy_RW_beside gv_RW_beside w_370 rfl (by decide) (by decide) [11, 12, 13, 14] rfl (by decide +kernel) rfl rfl rfl _ rfl (Nat.le_of_ble_eq_true rfl) d_PN_putNode_9 (show _ + 0 ≤ 6000 by omega) (show _ + 0 ≤ 36000 by omega) ?_
  rw [e2]
  refine g_lstore (pc := 12) hX d_PN_putNode_12 (by decide) ?_
  refine g_iload (pc := 14) hX d_PN_putNode_14 rfl ?_
  by_cases e_0 : rF tc k = 0
  · have hkc : rF tc k = 0 := e_0
    refine g_lsw (pc := 16) (tgt := 52) (off := 36) hX d_PN_putNode_16 (by decide) (by omega) (by rw [hkc]; rfl) (by decide) ?_
    obtain ⟨w1, w2⟩ := l1 (by omega)
    obtain ⟨u1, u2⟩ := hs.op sk hm hk hmt (i := (rG tc k).toNat) (by omega)
    rw [show (((rG tc k).toNat : Nat) : Int) = rG tc k by omega] at u1
    have r4 := pg ((env (rF tc) k).getD (rG tc k).toNat 0)
    refine g_aload_n (pc := 52) hX 3 d_PN_putNode_52 rfl rfl ?_
    refine g_iconst (pc := 53) hX d_PN_putNode_53 ?_
    refine g_aload_n (pc := 54) hX 3 d_PN_putNode_54 rfl rfl ?_
    refine g_aload_n (pc := 55) hX 0 d_PN_putNode_55 rfl rfl ?_
    refine g_get (pc := 56) hX f_PN_36 0 rfl rfl d_PN_putNode_56 ?_
    refine g_iload_n (pc := 59) hX 1 d_PN_putNode_59 rfl rfl ?_
    refine g_lload (pc := 60) hX d_PN_putNode_60 rfl ?_
    refine g_iV (pc := 62) hX (c_SC_binderOf l E s sc sk _ (by omega) _ (by omega) (by omega)) gy_SC_binderOf gv_SC_binderOf w_371 rfl (by decide) (by decide) [7, 8, 9, 10] rfl (by decide +kernel) rfl rfl rfl _ rfl (Nat.le_of_ble_eq_true rfl) d_PN_putNode_62 (show _ + 0 ≤ 6000 by omega) (show _ + 0 ≤ 36000 by omega) ?_
    rw [ed, u1]
    refine g_lV (pc := 65) hX (c_RW_beside l E p pc pk _ (by omega)) gy_RW_beside gv_RW_beside w_370 rfl (by decide) (by decide) [15, 16, 17, 18] rfl (by decide +kernel) rfl rfl rfl _ rfl (Nat.le_of_ble_eq_true rfl) d_PN_putNode_65 (show _ + 0 ≤ 6000 by omega) (show _ + 0 ≤ 36000 by omega) ?_
    rw [show rB pc (((env (rF tc) k).getD (rG tc k).toNat 0 : Nat) : Int) = rG pc ((env (rF tc) k).getD (rG tc k).toNat 0) from rB_t (by omega)]
    refine g_callV (pc := 68) hX (c_RW_add l E p pc pk _ (by omega) _ (by omega) (by omega)) gy_RW_add gv_RW_add w_429 rfl (by decide) (by decide) [15, 16, 17, 18] rfl (by decide +kernel) rfl rfl rfl _ rfl (Nat.le_of_ble_eq_true rfl) d_PN_putNode_68 (show _ + 6000 ≤ 6000 by omega) (show _ + 36000 ≤ 36000 by omega) (fun _ _ _ _ h => by obtain ⟨_, _, h2, _⟩ := h; rw [h2]; exact Nat.le_of_ble_eq_true rfl) (fun v w dc_1 ds_1 hp => ?_)
    obtain ⟨p_1, rfl, rfl, pk_1, f_1⟩ := hp
    refine g_wsP (pnW E n g s nc ++ glW E g gc ++ scW E s sc ++ rowW E t tc ++ rowW E p p_1) rfl rfl ?_
    obtain ⟨d1, d2, d3, d4, d5⟩ := f_1
    obtain ⟨⟨x1, x2, x3, x4⟩, -⟩ := id pk_1
    refine g_aload_n (pc := 71) hX 0 d_PN_putNode_71 rfl rfl ?_
    refine g_iload_n (pc := 72) hX 1 d_PN_putNode_72 rfl rfl ?_
    refine g_aload_n (pc := 73) hX 2 d_PN_putNode_73 rfl rfl ?_
    refine g_callV (pc := 74) hX (c_PN_passUse l E n g s nc nk sc sk t tc tk k σ hm hs hk hmt hcl2 hca) gy_PN_passUse gv_PN_passUse w_430 rfl (by decide) (by decide) [0, 1, 2, 3, 4, 7, 8, 9, 10, 11, 12, 13, 14] rfl (by decide +kernel) rfl rfl rfl _ rfl (Nat.le_of_ble_eq_true rfl) d_PN_putNode_74 (show _ + 0 ≤ 6000 by omega) (show _ + 0 ≤ 36000 by omega) (fun _ _ _ _ h => by obtain ⟨_, _, h2, _⟩ := h; rw [h2]; exact Nat.le_of_ble_eq_true rfl) (fun v w dc_2 ds_2 hp => ?_)
    obtain ⟨n_2, rfl, rfl, nk_2, f_2_1, rfl, rfl⟩ := hp
    refine g_wsP (pnW E n g s n_2 ++ glW E g gc ++ scW E s sc ++ rowW E t tc ++ rowW E p p_1) rfl rfl ?_
    refine g_goto (pc := 77) (tgt := 151) hX d_PN_putNode_77 (by decide) ?_
    exact g_vret (pc := 151) hX hE d_PN_putNode_151 (show _ ≤ 6000 by omega) (show _ ≤ 36000 by omega) ⟨n_2, p_1, rfl, rfl, nk_2, pk_1, by rw [f_2_1], by rw [f_2_1], by rw [d1]; unfold wNode; rw [if_pos (by omega)], by rw [Nat.zero_add, Nat.zero_add]; exact ⟨d3, d4, d5⟩⟩
  by_cases e_2 : rF tc k = 2
  · have hkc : rF tc k = 2 := e_2
    refine g_lsw (pc := 16) (tgt := 103) (off := 87) hX d_PN_putNode_16 (by decide) (by omega) (by rw [hkc]; rfl) (by decide) ?_
    refine g_aload_n (pc := 103) hX 0 d_PN_putNode_103 rfl rfl ?_
    refine g_sipush (pc := 104) hX 200 d_PN_putNode_104 (by decide) ?_
    refine g_iload_n (pc := 107) hX 1 d_PN_putNode_107 rfl rfl ?_
    refine g_iadd (pc := 108) hX d_PN_putNode_108 ?_
    refine g_iV (pc := 109) hX (c_PN_nextOf l E n g s nc nk _ (by omega)) gy_PN_nextOf gv_PN_nextOf w_396 rfl (by decide) (by decide) [0, 1, 2, 3, 4] rfl (by decide +kernel) rfl rfl rfl _ rfl (Nat.le_of_ble_eq_true rfl) d_PN_putNode_109 (show _ + 0 ≤ 6000 by omega) (show _ + 0 ≤ 36000 by omega) ?_
    rw [hx3] at hx2 ⊢
    refine g_ldc (pc := 112) hX 2147483647 w_362 (by decide) d_PN_putNode_112 ?_
    refine g_icmp_eq (pc := 114) (tgt := 121) hX d_PN_putNode_114 (by decide) (by omega) (by omega) (fun c_3 => ?_) (fun c_3 => ?_)
    · refine g_iconst (pc := 121) hX d_PN_putNode_121 ?_
      refine g_istore (pc := 122) hX d_PN_putNode_122 (by decide) ?_
      refine g_aload_n (pc := 124) hX 3 d_PN_putNode_124 rfl rfl ?_
      refine g_iload (pc := 125) hX d_PN_putNode_125 rfl ?_
      refine g_if_eq (pc := 127) (tgt := 134) hX d_PN_putNode_127 (by decide) (by decide) (fun c_4 => ?_) (fun c_4 => ?_)
      · refine g_bipush (pc := 134) hX 6 d_PN_putNode_134 (by decide) ?_
        refine g_lconst (pc := 136) hX 0 d_PN_putNode_136 (by decide) ?_
        refine g_callV (pc := 137) hX (c_RW_add l E p pc pk _ (by omega) _ (by omega) (by omega)) gy_RW_add gv_RW_add w_429 rfl (by decide) (by decide) [15, 16, 17, 18] rfl (by decide +kernel) rfl rfl rfl _ rfl (Nat.le_of_ble_eq_true rfl) d_PN_putNode_137 (show _ + 6000 ≤ 6000 by omega) (show _ + 36000 ≤ 36000 by omega) (fun _ _ _ _ h => by obtain ⟨_, _, h2, _⟩ := h; rw [h2]; exact Nat.le_of_ble_eq_true rfl) (fun v w dc_5 ds_5 hp => ?_)
        obtain ⟨p_5, rfl, rfl, pk_5, f_5⟩ := hp
        refine g_wsP (pnW E n g s nc ++ glW E g gc ++ scW E s sc ++ rowW E t tc ++ rowW E p p_5) rfl rfl ?_
        obtain ⟨d1, d2, d3, d4, d5⟩ := f_5
        obtain ⟨⟨x1, x2, x3, x4⟩, -⟩ := id pk_5
        refine g_goto (pc := 140) (tgt := 151) hX d_PN_putNode_140 (by decide) ?_
        exact g_vret (pc := 151) hX hE d_PN_putNode_151 (show _ ≤ 6000 by omega) (show _ ≤ 36000 by omega) ⟨nc, p_5, rfl, rfl, nk, pk_5, rfl, by rw [if_neg (by unfold useP; rw [if_neg (by omega), if_neg (by omega)]; decide)], by rw [d1]; unfold wNode; rw [if_neg (by omega), if_neg (by omega), if_pos (by omega), if_pos (by omega)], by rw [Nat.zero_add, Nat.zero_add]; exact ⟨d3, d4, d5⟩⟩
      · exact absurd (by decide) c_4
    · refine g_iconst (pc := 117) hX d_PN_putNode_117 ?_
      refine g_goto (pc := 118) (tgt := 122) hX d_PN_putNode_118 (by decide) ?_
      refine g_istore (pc := 122) hX d_PN_putNode_122 (by decide) ?_
      refine g_aload_n (pc := 124) hX 3 d_PN_putNode_124 rfl rfl ?_
      refine g_iload (pc := 125) hX d_PN_putNode_125 rfl ?_
      refine g_if_eq (pc := 127) (tgt := 134) hX d_PN_putNode_127 (by decide) (by decide) (fun c_6 => ?_) (fun c_6 => ?_)
      · exact absurd c_6 (by decide)
      · refine g_iconst (pc := 130) hX d_PN_putNode_130 ?_
        refine g_goto (pc := 131) (tgt := 136) hX d_PN_putNode_131 (by decide) ?_
        refine g_lconst (pc := 136) hX 0 d_PN_putNode_136 (by decide) ?_
        refine g_callV (pc := 137) hX (c_RW_add l E p pc pk _ (by omega) _ (by omega) (by omega)) gy_RW_add gv_RW_add w_429 rfl (by decide) (by decide) [15, 16, 17, 18] rfl (by decide +kernel) rfl rfl rfl _ rfl (Nat.le_of_ble_eq_true rfl) d_PN_putNode_137 (show _ + 6000 ≤ 6000 by omega) (show _ + 36000 ≤ 36000 by omega) (fun _ _ _ _ h => by obtain ⟨_, _, h2, _⟩ := h; rw [h2]; exact Nat.le_of_ble_eq_true rfl) (fun v w dc_7 ds_7 hp => ?_)
        obtain ⟨p_7, rfl, rfl, pk_7, f_7⟩ := hp
        refine g_wsP (pnW E n g s nc ++ glW E g gc ++ scW E s sc ++ rowW E t tc ++ rowW E p p_7) rfl rfl ?_
        obtain ⟨d1, d2, d3, d4, d5⟩ := f_7
        obtain ⟨⟨x1, x2, x3, x4⟩, -⟩ := id pk_7
        refine g_goto (pc := 140) (tgt := 151) hX d_PN_putNode_140 (by decide) ?_
        exact g_vret (pc := 151) hX hE d_PN_putNode_151 (show _ ≤ 6000 by omega) (show _ ≤ 36000 by omega) ⟨nc, p_7, rfl, rfl, nk, pk_7, rfl, by rw [if_neg (by unfold useP; rw [if_neg (by omega), if_neg (by omega)]; decide)], by rw [d1]; unfold wNode; rw [if_neg (by omega), if_neg (by omega), if_pos (by omega), if_neg (by omega)], by rw [Nat.zero_add, Nat.zero_add]; exact ⟨d3, d4, d5⟩⟩
  by_cases e_7 : rF tc k = 7
  · have hkc : rF tc k = 7 := e_7
    refine g_lsw (pc := 16) (tgt := 80) (off := 64) hX d_PN_putNode_16 (by decide) (by omega) (by rw [hkc]; rfl) (by decide) ?_
    obtain ⟨w1, w2⟩ := l2 (by omega)
    have r4 := g2 (rG tc k).toNat
    refine g_aload_n (pc := 80) hX 3 d_PN_putNode_80 rfl rfl ?_
    refine g_iconst (pc := 81) hX d_PN_putNode_81 ?_
    refine g_aload_n (pc := 82) hX 0 d_PN_putNode_82 rfl rfl ?_
    refine g_get (pc := 83) hX f_PN_32 0 rfl rfl d_PN_putNode_83 ?_
    refine g_lload (pc := 86) hX d_PN_putNode_86 rfl ?_
    refine g_lV (pc := 88) hX (c_GL_name l E g gc gk _ (by omega)) gy_GL_name gv_GL_name w_400 rfl (by decide) (by decide) [5, 6] rfl (by decide +kernel) rfl rfl rfl _ rfl (Nat.le_of_ble_eq_true rfl) d_PN_putNode_88 (show _ + 0 ≤ 6000 by omega) (show _ + 0 ≤ 36000 by omega) ?_
    rw [show (if 0 ≤ rG tc k ∧ rG tc k < uN gc then uF gc (rG tc k).toNat else 0) = uF gc (rG tc k).toNat from if_pos (by omega)]
    refine g_callV (pc := 91) hX (c_RW_add l E p pc pk _ (by omega) _ (by omega) (by omega)) gy_RW_add gv_RW_add w_429 rfl (by decide) (by decide) [15, 16, 17, 18] rfl (by decide +kernel) rfl rfl rfl _ rfl (Nat.le_of_ble_eq_true rfl) d_PN_putNode_91 (show _ + 6000 ≤ 6000 by omega) (show _ + 36000 ≤ 36000 by omega) (fun _ _ _ _ h => by obtain ⟨_, _, h2, _⟩ := h; rw [h2]; exact Nat.le_of_ble_eq_true rfl) (fun v w dc_8 ds_8 hp => ?_)
    obtain ⟨p_8, rfl, rfl, pk_8, f_8⟩ := hp
    refine g_wsP (pnW E n g s nc ++ glW E g gc ++ scW E s sc ++ rowW E t tc ++ rowW E p p_8) rfl rfl ?_
    obtain ⟨d1, d2, d3, d4, d5⟩ := f_8
    obtain ⟨⟨x1, x2, x3, x4⟩, -⟩ := id pk_8
    refine g_aload_n (pc := 94) hX 0 d_PN_putNode_94 rfl rfl ?_
    refine g_iload_n (pc := 95) hX 1 d_PN_putNode_95 rfl rfl ?_
    refine g_aload_n (pc := 96) hX 2 d_PN_putNode_96 rfl rfl ?_
    refine g_callV (pc := 97) hX (c_PN_passUse l E n g s nc nk sc sk t tc tk k σ hm hs hk hmt hcl2 hca) gy_PN_passUse gv_PN_passUse w_430 rfl (by decide) (by decide) [0, 1, 2, 3, 4, 7, 8, 9, 10, 11, 12, 13, 14] rfl (by decide +kernel) rfl rfl rfl _ rfl (Nat.le_of_ble_eq_true rfl) d_PN_putNode_97 (show _ + 0 ≤ 6000 by omega) (show _ + 0 ≤ 36000 by omega) (fun _ _ _ _ h => by obtain ⟨_, _, h2, _⟩ := h; rw [h2]; exact Nat.le_of_ble_eq_true rfl) (fun v w dc_9 ds_9 hp => ?_)
    obtain ⟨n_9, rfl, rfl, nk_9, f_9_1, rfl, rfl⟩ := hp
    refine g_wsP (pnW E n g s n_9 ++ glW E g gc ++ scW E s sc ++ rowW E t tc ++ rowW E p p_8) rfl rfl ?_
    refine g_goto (pc := 100) (tgt := 151) hX d_PN_putNode_100 (by decide) ?_
    exact g_vret (pc := 151) hX hE d_PN_putNode_151 (show _ ≤ 6000 by omega) (show _ ≤ 36000 by omega) ⟨n_9, p_8, rfl, rfl, nk_9, pk_8, by rw [f_9_1], by rw [f_9_1], by rw [d1]; unfold wNode; rw [if_neg (by omega), if_pos (by omega)], by rw [Nat.zero_add, Nat.zero_add]; exact ⟨d3, d4, d5⟩⟩
  refine g_lsw (pc := 16) (tgt := 143) (off := 127) hX d_PN_putNode_16 (by decide) (by omega) (by simp [Op.lookupswitch.offset_cons, Op.lookupswitch.offset, Ne.symm e_0, e_0, Ne.symm e_2, e_2, Ne.symm e_7, e_7]) (by decide) ?_
  refine g_aload_n (pc := 143) hX 3 d_PN_putNode_143 rfl rfl ?_
  refine g_iload (pc := 144) hX d_PN_putNode_144 rfl ?_
  refine g_lload (pc := 146) hX d_PN_putNode_146 rfl ?_
  refine g_callV (pc := 148) hX (c_RW_add l E p pc pk _ (by omega) _ (by omega) (by omega)) gy_RW_add gv_RW_add w_429 rfl (by decide) (by decide) [15, 16, 17, 18] rfl (by decide +kernel) rfl rfl rfl _ rfl (Nat.le_of_ble_eq_true rfl) d_PN_putNode_148 (show _ + 6000 ≤ 6000 by omega) (show _ + 36000 ≤ 36000 by omega) (fun _ _ _ _ h => by obtain ⟨_, _, h2, _⟩ := h; rw [h2]; exact Nat.le_of_ble_eq_true rfl) (fun v w dc_10 ds_10 hp => ?_)
  obtain ⟨p_10, rfl, rfl, pk_10, f_10⟩ := hp
  refine g_wsP (pnW E n g s nc ++ glW E g gc ++ scW E s sc ++ rowW E t tc ++ rowW E p p_10) rfl rfl ?_
  obtain ⟨d1, d2, d3, d4, d5⟩ := f_10
  obtain ⟨⟨x1, x2, x3, x4⟩, -⟩ := id pk_10
  exact g_vret (pc := 151) hX hE d_PN_putNode_151 (show _ ≤ 6000 by omega) (show _ ≤ 36000 by omega) ⟨nc, p_10, rfl, rfl, nk, pk_10, rfl, by rw [if_neg (by unfold useP; rw [if_neg (by omega), if_neg (by omega)]; decide)], by rw [d1]; unfold wNode; rw [if_neg (by omega), if_neg (by omega), if_neg (by omega)], by rw [Nat.zero_add, Nat.zero_add]; exact ⟨d3, d4, d5⟩⟩

abbrev rm_PN_init : Room := { frames := 1, cells := 4, slots := 864, locals := 20 }
set_option maxHeartbeats 4000000 in
set_option maxRecDepth 100000 in
theorem c_PN_init (l : Launch) (E : gE) (n : Nat) (g : Nat) (s : Nat) : Ct l E y_PN_init b_PN_init 3 none rm_PN_init [.ref n, .ref g, .ref s] ([(n, .inr (1, [.null, .null, .null, .null, .null, .null, .int 0]))]) (fun vv ww dc ds => ∃ π, vv = none ∧ ww = pnW E n g s π ∧ pnOK π ∧ (pC π = 216 ∧ pM π = 0 ∧ dc = 4 ∧ ds = 864)) := by
  refine g_start (by decide) (Nat.le_of_ble_eq_true rfl) (fun X hX hE hin => ?_)
  replace hin := hin rfl
  refine g_aload_n (pc := 0) hX 0 d_PN_init_0 rfl rfl ?_
  refine g_objInit (pc := 1) hX w_77 w_17 w_18 (by decide) (by decide) (Nat.le_of_ble_eq_true rfl) d_PN_init_1 ?_
  refine g_aload_n (pc := 4) hX 0 d_PN_init_4 rfl rfl ?_
  refine g_sipush (pc := 5) hX 216 d_PN_init_5 (by decide) ?_
  refine g_newI (pc := 8) hX w_52 (by omega) (by omega) (by decide) (by decide) d_PN_init_8 (fun q8 => ?_)
  refine g_put (pc := 10) hX f_PN_11 gt_PN 0 rfl rfl rfl rfl (Nat.le_of_ble_eq_true rfl) d_PN_init_10 ?_
  refine g_aload_n (pc := 13) hX 0 d_PN_init_13 rfl rfl ?_
  refine g_sipush (pc := 14) hX 216 d_PN_init_14 (by decide) ?_
  refine g_newI (pc := 17) hX w_52 (by omega) (by omega) (by decide) (by decide) d_PN_init_17 (fun q17 => ?_)
  refine g_put (pc := 19) hX f_PN_17 gt_PN 0 rfl rfl rfl rfl (Nat.le_of_ble_eq_true rfl) d_PN_init_19 ?_
  refine g_aload_n (pc := 22) hX 0 d_PN_init_22 rfl rfl ?_
  refine g_sipush (pc := 23) hX 216 d_PN_init_23 (by decide) ?_
  refine g_newL (pc := 26) hX w_32 (by omega) (by omega) (by decide) (by decide) d_PN_init_26 (fun q26 => ?_)
  refine g_put (pc := 28) hX f_PN_20 gt_PN 0 rfl rfl rfl rfl (Nat.le_of_ble_eq_true rfl) d_PN_init_28 ?_
  refine g_aload_n (pc := 31) hX 0 d_PN_init_31 rfl rfl ?_
  refine g_sipush (pc := 32) hX 216 d_PN_init_32 (by decide) ?_
  refine g_newZ (pc := 35) hX w_100 (by omega) (by omega) (by decide) (by decide) d_PN_init_35 (fun q35 => ?_)
  refine g_put (pc := 37) hX f_PN_24 gt_PN 0 rfl rfl rfl rfl (Nat.le_of_ble_eq_true rfl) d_PN_init_37 ?_
  refine g_aload_n (pc := 40) hX 0 d_PN_init_40 rfl rfl ?_
  refine g_iconst (pc := 41) hX d_PN_init_41 ?_
  refine g_put (pc := 42) hX f_PN_28 gt_PN 0 rfl rfl rfl rfl (Nat.le_of_ble_eq_true rfl) d_PN_init_42 ?_
  refine g_aload_n (pc := 45) hX 0 d_PN_init_45 rfl rfl ?_
  refine g_aload_n (pc := 46) hX 1 d_PN_init_46 rfl rfl ?_
  refine g_putF (pc := 47) hX hin f_PN_32 gt_PN 0 rfl rfl rfl rfl rfl (Nat.le_of_ble_eq_true rfl) d_PN_init_47 ?_
  refine g_aload_n (pc := 50) hX 0 d_PN_init_50 rfl rfl ?_
  refine g_aload_n (pc := 51) hX 2 d_PN_init_51 rfl rfl ?_
  refine g_putF (pc := 52) hX hin f_PN_36 gt_PN 0 rfl rfl rfl rfl rfl (Nat.le_of_ble_eq_true rfl) d_PN_init_52 ?_
  refine g_sub (pnW E n g s (((q8, q17, q26, q35), 216, fun _ => 0, fun _ => 0, fun _ => 0, fun _ => 0, 0) : PnT)) [0, 1, 2, 3, 4] rfl rfl ?_
  exact g_vret (pc := 55) hX hE d_PN_init_55 (by decide) (by decide) ⟨_, rfl, rfl, ⟨⟨by show (216 : Nat) ≤ 216; decide, by show (216 : Nat) ≤ 6400; decide, by show (0 : Nat) ≤ 216; decide⟩, fun _ => gin0, fun _ => gin0, fun _ => ⟨by show (-9223372036854775808 : Int) ≤ 0; decide, by show (0 : Int) < 9223372036854775808; decide⟩, fun _ => gin0⟩, rfl, rfl, rfl, rfl⟩
