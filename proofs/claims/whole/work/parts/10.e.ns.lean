abbrev rm_NS_copy : Room := { frames := 4, cells := 12000, slots := 72000, locals := 93 }
set_option maxHeartbeats 4000000 in
set_option maxRecDepth 100000 in
theorem c_NS_copy (l : Launch) (E : gE) (x g kp pa la s n te sp : Nat) (tec : RowT) (tek : rowOK tec) (spc : RowT) (spk : rowOK spc) (a : Nat) (e : Nat) (h0 : a ≤ e ∧ e ≤ rN tec ∧ rN spc + (e - a) ≤ 3000) : Ct l E y_NS_copy b_NS_copy 4 none rm_NS_copy [.ref x, .int (iI (a : Int)), .int (iI (e : Int))] (nsO x g kp pa la s n te sp ++ rowW E te tec ++ rowW E sp spc) (fun vv ww dc ds => ∃ ρ, vv = none ∧ ww = nsO x g kp pa la s n te sp ++ rowW E te tec ++ rowW E sp ρ ∧ rowOK ρ ∧ (rL ρ = rL spc ++ seg (rF tec) (rG tec) a (e - a) ∧ rGrow spc ρ dc ds)) := by
  obtain ⟨⟨te1, te2, te3, te4⟩, tef, teg, teh⟩ := id tek
  obtain ⟨⟨sp1, sp2, sp3, sp4⟩, spf, spg, sph⟩ := id spk
  obtain ⟨m, rfl⟩ : ∃ m, e = a + m := ⟨e - a, by omega⟩
  rw [show a + m - a = m by omega] at *
  refine g_start (by decide) (Nat.le_of_ble_eq_true rfl) (fun X hX hE hin => ?_)
  refine g_iload_n (pc := 0) hX 1 d_NS_copy_0 rfl rfl ?_
  refine g_istore_n (pc := 1) hX 3 d_NS_copy_1 rfl (by decide) ?_
  have loop : ∀ (d : Nat) (i : Nat) (ρ : RowT) (c0 s0 : Nat), m < i + d → i ≤ m → rowOK ρ → rL ρ = rL spc ++ seg (rF tec) (rG tec) a i → rGrow spc ρ c0 s0 → gW X (nsO x g kp pa la s n te sp ++ rowW E te tec ++ rowW E sp ρ) c0 s0 2 [(0, .ref x), (2, .int (iI ((a + m : Nat) : Int))), (3, .int (iI ((a + i : Nat) : Int)))] [] := by
    intro d
    induction d with
    | zero => intro i ρ c0 s0 hfu hi hρ hl hg; omega
    | succ d ih =>
      intro i ρ c0 s0 hfu hi hρ hl hg
      obtain ⟨g1, g2, g3⟩ := id hg
      obtain ⟨⟨p1, p2, p3, p4⟩, -⟩ := id hρ
      have hL : rN ρ = rN spc + i := by have := congrArg List.length hl; rw [List.length_append, Lr_len, Lr_len, seg_len] at this; exact this
      refine g_iload_n (pc := 2) hX 3 d_NS_copy_2 rfl rfl ?_
      refine g_iload_n (pc := 3) hX 2 d_NS_copy_3 rfl rfl ?_
      refine g_icmp_ge (pc := 4) (tgt := 36) hX d_NS_copy_4 (by decide) (by omega) (by omega) (fun c_1 => ?_) (fun c_1 => ?_)
      · exact g_vret (pc := 36) hX hE d_NS_copy_36 (show _ ≤ 12000 by omega) (show _ ≤ 72000 by omega) ⟨ρ, rfl, rfl, hρ, by rw [hl, show i = m by omega], hg⟩
      · obtain ⟨j, ej⟩ : ∃ j : Nat, j = a + i := ⟨_, rfl⟩
        rw [← ej]
        have q1 : rK tec (j : Int) = rF tec j := rK_t (by omega)
        have q3 : rB tec (j : Int) = rG tec j := rB_t (by omega)
        have r1 := tef j
        have r3 := teg j
        refine g_aload_n (pc := 7) hX 0 d_NS_copy_7 rfl rfl ?_
        refine g_get (pc := 8) hX f_NS_46 0 rfl rfl d_NS_copy_8 ?_
        refine g_aload_n (pc := 11) hX 0 d_NS_copy_11 rfl rfl ?_
        refine g_get (pc := 12) hX f_NS_43 0 rfl rfl d_NS_copy_12 ?_
        refine g_iload_n (pc := 15) hX 3 d_NS_copy_15 rfl rfl ?_
        refine g_iV (pc := 16) hX (c_RW_kind l E te tec tek _ (by omega)) gy_RW_kind gv_RW_kind w_273 rfl (by decide) (by decide) [1, 2, 3, 4] rfl rfl rfl rfl rfl _ rfl (Nat.le_of_ble_eq_true rfl) d_NS_copy_16 (show _ + 0 ≤ 12000 by omega) (show _ + 0 ≤ 72000 by omega) ?_
        rw [q1]
        refine g_aload_n (pc := 19) hX 0 d_NS_copy_19 rfl rfl ?_
        refine g_get (pc := 20) hX f_NS_43 0 rfl rfl d_NS_copy_20 ?_
        refine g_iload_n (pc := 23) hX 3 d_NS_copy_23 rfl rfl ?_
        refine g_lV (pc := 24) hX (c_RW_beside l E te tec tek _ (by omega)) gy_RW_beside gv_RW_beside w_274 rfl (by decide) (by decide) [1, 2, 3, 4] rfl rfl rfl rfl rfl _ rfl (Nat.le_of_ble_eq_true rfl) d_NS_copy_24 (show _ + 0 ≤ 12000 by omega) (show _ + 0 ≤ 72000 by omega) ?_
        rw [q3]
        refine g_callV (pc := 27) hX (c_RW_add l E sp ρ hρ _ (by omega) _ (by omega) (by omega)) gy_RW_add gv_RW_add w_160 rfl (by decide) (by decide) [5, 6, 7, 8] rfl rfl rfl rfl rfl _ rfl (Nat.le_of_ble_eq_true rfl) d_NS_copy_27 (show _ + 6000 ≤ 12000 by omega) (show _ + 36000 ≤ 72000 by omega) (fun _ _ _ _ h => by obtain ⟨_, _, h2, _⟩ := h; rw [h2]; exact Nat.le_of_ble_eq_true rfl) (fun v w dc_2 ds_2 hp => ?_)
        obtain ⟨sp_2, rfl, rfl, spk_2, f_2⟩ := hp
        refine g_wsP (nsO x g kp pa la s n te sp ++ rowW E te tec ++ rowW E sp sp_2) rfl rfl ?_
        subst ej
        refine g_iinc (pc := 30) hX d_NS_copy_30 (by decide) rfl ?_
        refine g_goto (pc := 33) (tgt := 2) hX d_NS_copy_33 (by decide) ?_
        refine g_lv [(0, .ref x), (2, .int (iI ((a + m : Nat) : Int))), (3, .int (iI ((a + (i + 1) : Nat) : Int)))] ⟨rfl, rfl, rfl, trivial⟩ ?_
        exact ih (i + 1) sp_2 _ _ (by omega) (by omega) spk_2 (by rw [f_2.1, hl, seg_succ, List.append_assoc]) (hg.tr f_2.2.2)
  refine g_lv [(0, .ref x), (2, .int (iI ((a + m : Nat) : Int))), (3, .int (iI ((a + 0 : Nat) : Int)))] ⟨rfl, rfl, rfl, trivial⟩ ?_
  exact loop (m + 1) 0 spc 0 0 (by omega) (by omega) spk (by rw [seg_0, List.append_nil]) (rGrow.rf spc)
  

abbrev rm_NS_copyDeeper : Room := { frames := 4, cells := 12000, slots := 72000, locals := 93 }
set_option maxHeartbeats 4000000 in
set_option maxRecDepth 100000 in
theorem c_NS_copyDeeper (l : Launch) (E : gE) (x g kp pa la s n te sp : Nat) (tec : RowT) (tek : rowOK tec) (sc : ScT) (sk : scOK sc) (spc : RowT) (spk : rowOK spc) (σ : Nat → Nat) (hm : mea tec σ) (hs : scFor sc tec) (hb : tB tec) (v : Nat) (e : Int) (h0 : v < rN tec ∧ rN spc + σ v ≤ 3000 ∧ 0 ≤ e ∧ e ≤ 3000) : Ct l E y_NS_copyDeeper b_NS_copyDeeper 9 none rm_NS_copyDeeper [.ref x, .int (iI (v : Int)), .int (iI e)] (nsO x g kp pa la s n te sp ++ rowW E te tec ++ scW E s sc ++ rowW E sp spc) (fun vv ww dc ds => ∃ ρ, vv = none ∧ ww = nsO x g kp pa la s n te sp ++ rowW E te tec ++ scW E s sc ++ rowW E sp ρ ∧ rowOK ρ ∧ (rL ρ = rL spc ++ vL (rF tec) (rG tec) v (σ v) e ∧ rGrow spc ρ dc ds)) := by
  obtain ⟨⟨te1, te2, te3, te4⟩, tef, teg, teh⟩ := id tek
  obtain ⟨⟨sp1, sp2, sp3, sp4⟩, spf, spg, sph⟩ := id spk
  obtain ⟨v1, v2, v3, v4⟩ := h0
  have ed := hs.d v1
  obtain ⟨z4, z5⟩ := hm.en v1
  have es := hm.sz v1
  have dl : dep (rF tec) v ≤ v := env_le hm.1 hm.2.1 v1
  have zs := hs.1
  refine g_start (by decide) (Nat.le_of_ble_eq_true rfl) (fun X hX hE hin => ?_)
  refine g_aload_n (pc := 0) hX 0 d_NS_copyDeeper_0 rfl rfl ?_
  refine g_get (pc := 1) hX f_NS_32 0 rfl rfl d_NS_copyDeeper_1 ?_
  refine g_iload_n (pc := 4) hX 1 d_NS_copyDeeper_4 rfl rfl ?_
  refine g_iV (pc := 5) hX (c_SC_depth l E s sc sk _ (by omega)) gy_SC_depth gv_SC_depth w_319 rfl (by decide) (by decide) [5, 6, 7, 8] rfl rfl rfl rfl rfl _ rfl (Nat.le_of_ble_eq_true rfl) d_NS_copyDeeper_5 (show _ + 0 ≤ 12000 by omega) (show _ + 0 ≤ 72000 by omega) ?_
  rw [ed]
  refine g_istore_n (pc := 8) hX 3 d_NS_copyDeeper_8 rfl (by decide) ?_
  refine g_aload_n (pc := 9) hX 0 d_NS_copyDeeper_9 rfl rfl ?_
  refine g_get (pc := 10) hX f_NS_43 0 rfl rfl d_NS_copyDeeper_10 ?_
  refine g_iload_n (pc := 13) hX 1 d_NS_copyDeeper_13 rfl rfl ?_
  refine g_iV (pc := 14) hX (c_RW_end l E te tec tek _ (by omega)) gy_RW_end gv_RW_end w_320 rfl (by decide) (by decide) [1, 2, 3, 4] rfl rfl rfl rfl rfl _ rfl (Nat.le_of_ble_eq_true rfl) d_NS_copyDeeper_14 (show _ + 0 ≤ 12000 by omega) (show _ + 0 ≤ 72000 by omega) ?_
  refine g_st (.int (iI ((v + σ v : Nat) : Int)) :: []) (by rw [es] <;> rfl) ?_
  refine g_istore (pc := 17) hX d_NS_copyDeeper_17 (by decide) ?_
  refine g_iload_n (pc := 19) hX 1 d_NS_copyDeeper_19 rfl rfl ?_
  refine g_istore (pc := 20) hX d_NS_copyDeeper_20 (by decide) ?_
  have loop : ∀ (d : Nat) (i : Nat) (ρ : RowT) (c0 s0 : Nat), σ v < i + d → i ≤ σ v → rowOK ρ → rL ρ = rL spc ++ vL (rF tec) (rG tec) v i e → rGrow spc ρ c0 s0 → gW X (nsO x g kp pa la s n te sp ++ rowW E te tec ++ scW E s sc ++ rowW E sp ρ) c0 s0 22 [(0, .ref x), (2, .int (iI e)), (3, .int (iI (dep (rF tec) v : Int))), (4, .int (iI ((v + σ v : Nat) : Int))), (5, .int (iI ((v + i : Nat) : Int)))] [] := by
    intro d
    induction d with
    | zero => intro i ρ c0 s0 hfu hi hρ hl hg; omega
    | succ d ih =>
      intro i ρ c0 s0 hfu hi hρ hl hg
      obtain ⟨g1, g2, g3⟩ := id hg
      obtain ⟨⟨p1, p2, p3, p4⟩, -⟩ := id hρ
      have hL : rN ρ = rN spc + i := by have := congrArg List.length hl; rw [List.length_append, Lr_len, Lr_len, vL_len] at this; exact this
      refine g_iload (pc := 22) hX d_NS_copyDeeper_22 rfl ?_
      refine g_iload (pc := 24) hX d_NS_copyDeeper_24 rfl ?_
      refine g_icmp_ge (pc := 26) (tgt := 114) hX d_NS_copyDeeper_26 (by decide) (by omega) (by omega) (fun c_1 => ?_) (fun c_1 => ?_)
      · exact g_vret (pc := 114) hX hE d_NS_copyDeeper_114 (show _ ≤ 12000 by omega) (show _ ≤ 72000 by omega) ⟨ρ, rfl, rfl, hρ, by rw [hl, show i = σ v by omega], hg⟩
      · obtain ⟨j, ej⟩ : ∃ j : Nat, j = v + i := ⟨_, rfl⟩
        rw [← ej]
        have q1 : rK tec (j : Int) = rF tec j := rK_t (by omega)
        have q3 : rB tec (j : Int) = rG tec j := rB_t (by omega)
        have q5 := hs.d (show j < rN tec by omega)
        have dj : dep (rF tec) j ≤ j := env_le hm.1 hm.2.1 (show j < rN tec by omega)
        have r1 := tef j
        have r3 := teg j
        obtain ⟨b1, b2⟩ := hb j (by omega)
        refine g_aload_n (pc := 29) hX 0 d_NS_copyDeeper_29 rfl rfl ?_
        refine g_get (pc := 30) hX f_NS_43 0 rfl rfl d_NS_copyDeeper_30 ?_
        refine g_iload (pc := 33) hX d_NS_copyDeeper_33 rfl ?_
        refine g_lV (pc := 35) hX (c_RW_beside l E te tec tek _ (by omega)) gy_RW_beside gv_RW_beside w_274 rfl (by decide) (by decide) [1, 2, 3, 4] rfl rfl rfl rfl rfl _ rfl (Nat.le_of_ble_eq_true rfl) d_NS_copyDeeper_35 (show _ + 0 ≤ 12000 by omega) (show _ + 0 ≤ 72000 by omega) ?_
        rw [q3]
        refine g_lstore (pc := 38) hX d_NS_copyDeeper_38 (by decide) ?_
        refine g_aload_n (pc := 40) hX 0 d_NS_copyDeeper_40 rfl rfl ?_
        refine g_get (pc := 41) hX f_NS_43 0 rfl rfl d_NS_copyDeeper_41 ?_
        refine g_iload (pc := 44) hX d_NS_copyDeeper_44 rfl ?_
        refine g_iV (pc := 46) hX (c_RW_kind l E te tec tek _ (by omega)) gy_RW_kind gv_RW_kind w_273 rfl (by decide) (by decide) [1, 2, 3, 4] rfl rfl rfl rfl rfl _ rfl (Nat.le_of_ble_eq_true rfl) d_NS_copyDeeper_46 (show _ + 0 ≤ 12000 by omega) (show _ + 0 ≤ 72000 by omega) ?_
        rw [q1]
        refine g_if_ne (pc := 49) (tgt := 74) hX d_NS_copyDeeper_49 (by decide) (by omega) (fun c_2 => ?_) (fun c_2 => ?_)
        · refine g_iconst (pc := 74) hX d_NS_copyDeeper_74 ?_
          refine g_istore (pc := 75) hX d_NS_copyDeeper_75 (by decide) ?_
          refine g_aload_n (pc := 77) hX 0 d_NS_copyDeeper_77 rfl rfl ?_
          refine g_get (pc := 78) hX f_NS_46 0 rfl rfl d_NS_copyDeeper_78 ?_
          refine g_aload_n (pc := 81) hX 0 d_NS_copyDeeper_81 rfl rfl ?_
          refine g_get (pc := 82) hX f_NS_43 0 rfl rfl d_NS_copyDeeper_82 ?_
          refine g_iload (pc := 85) hX d_NS_copyDeeper_85 rfl ?_
          refine g_iV (pc := 87) hX (c_RW_kind l E te tec tek _ (by omega)) gy_RW_kind gv_RW_kind w_273 rfl (by decide) (by decide) [1, 2, 3, 4] rfl rfl rfl rfl rfl _ rfl (Nat.le_of_ble_eq_true rfl) d_NS_copyDeeper_87 (show _ + 0 ≤ 12000 by omega) (show _ + 0 ≤ 72000 by omega) ?_
          rw [q1]
          refine g_iload (pc := 90) hX d_NS_copyDeeper_90 rfl ?_
          refine g_if_eq (pc := 92) (tgt := 103) hX d_NS_copyDeeper_92 (by decide) (by decide) (fun c_3 => ?_) (fun c_3 => ?_)
          · refine g_lload (pc := 103) hX d_NS_copyDeeper_103 rfl ?_
            have hv : vN (rF tec) (rG tec) v e j = (rF tec j, rG tec j) := by unfold vN; rw [if_neg (by omega)]
            refine g_callV (pc := 105) hX (c_RW_add l E sp ρ hρ _ (by omega) _ (by omega) (by omega)) gy_RW_add gv_RW_add w_160 rfl (by decide) (by decide) [9, 10, 11, 12] rfl rfl rfl rfl rfl _ rfl (Nat.le_of_ble_eq_true rfl) d_NS_copyDeeper_105 (show _ + 6000 ≤ 12000 by omega) (show _ + 36000 ≤ 72000 by omega) (fun _ _ _ _ h => by obtain ⟨_, _, h2, _⟩ := h; rw [h2]; exact Nat.le_of_ble_eq_true rfl) (fun v w dc_4 ds_4 hp => ?_)
            obtain ⟨sp_4, rfl, rfl, spk_4, f_4⟩ := hp
            refine g_wsP (nsO x g kp pa la s n te sp ++ rowW E te tec ++ scW E s sc ++ rowW E sp sp_4) rfl rfl ?_
            subst ej
            refine g_iinc (pc := 108) hX d_NS_copyDeeper_108 (by decide) rfl ?_
            refine g_goto (pc := 111) (tgt := 22) hX d_NS_copyDeeper_111 (by decide) ?_
            refine g_lv [(0, .ref x), (2, .int (iI e)), (3, .int (iI (dep (rF tec) v : Int))), (4, .int (iI ((v + σ v : Nat) : Int))), (5, .int (iI ((v + (i + 1) : Nat) : Int)))] ⟨rfl, rfl, rfl, rfl, rfl, trivial⟩ ?_
            exact ih (i + 1) sp_4 _ _ (by omega) (by omega) spk_4 (by rw [f_4.1, hl, vL_succ, hv, List.append_assoc]) (hg.tr f_4.2.2)
          · exact absurd (by decide) c_3
        · refine g_lload (pc := 52) hX d_NS_copyDeeper_52 rfl ?_
          refine g_aload_n (pc := 54) hX 0 d_NS_copyDeeper_54 rfl rfl ?_
          refine g_get (pc := 55) hX f_NS_32 0 rfl rfl d_NS_copyDeeper_55 ?_
          refine g_iload (pc := 58) hX d_NS_copyDeeper_58 rfl ?_
          refine g_iV (pc := 60) hX (c_SC_depth l E s sc sk _ (by omega)) gy_SC_depth gv_SC_depth w_319 rfl (by decide) (by decide) [5, 6, 7, 8] rfl rfl rfl rfl rfl _ rfl (Nat.le_of_ble_eq_true rfl) d_NS_copyDeeper_60 (show _ + 0 ≤ 12000 by omega) (show _ + 0 ≤ 72000 by omega) ?_
          rw [q5]
          refine g_iload_n (pc := 63) hX 3 d_NS_copyDeeper_63 rfl rfl ?_
          refine g_isub (pc := 64) hX d_NS_copyDeeper_64 ?_
          refine g_i2l (pc := 65) hX d_NS_copyDeeper_65 (by omega) ?_
          refine g_lcmp_lt (pc := 66) (tgt := 74) hX d_NS_copyDeeper_66 d_NS_copyDeeper_67 (by decide) (by omega) (by omega) (fun c_5 => ?_) (fun c_5 => ?_)
          · refine g_iconst (pc := 74) hX d_NS_copyDeeper_74 ?_
            refine g_istore (pc := 75) hX d_NS_copyDeeper_75 (by decide) ?_
            refine g_aload_n (pc := 77) hX 0 d_NS_copyDeeper_77 rfl rfl ?_
            refine g_get (pc := 78) hX f_NS_46 0 rfl rfl d_NS_copyDeeper_78 ?_
            refine g_aload_n (pc := 81) hX 0 d_NS_copyDeeper_81 rfl rfl ?_
            refine g_get (pc := 82) hX f_NS_43 0 rfl rfl d_NS_copyDeeper_82 ?_
            refine g_iload (pc := 85) hX d_NS_copyDeeper_85 rfl ?_
            refine g_iV (pc := 87) hX (c_RW_kind l E te tec tek _ (by omega)) gy_RW_kind gv_RW_kind w_273 rfl (by decide) (by decide) [1, 2, 3, 4] rfl rfl rfl rfl rfl _ rfl (Nat.le_of_ble_eq_true rfl) d_NS_copyDeeper_87 (show _ + 0 ≤ 12000 by omega) (show _ + 0 ≤ 72000 by omega) ?_
            rw [q1]
            refine g_iload (pc := 90) hX d_NS_copyDeeper_90 rfl ?_
            refine g_if_eq (pc := 92) (tgt := 103) hX d_NS_copyDeeper_92 (by decide) (by decide) (fun c_6 => ?_) (fun c_6 => ?_)
            · refine g_lload (pc := 103) hX d_NS_copyDeeper_103 rfl ?_
              have hv : vN (rF tec) (rG tec) v e j = (rF tec j, rG tec j) := by unfold vN; rw [if_neg (by omega)]
              refine g_callV (pc := 105) hX (c_RW_add l E sp ρ hρ _ (by omega) _ (by omega) (by omega)) gy_RW_add gv_RW_add w_160 rfl (by decide) (by decide) [9, 10, 11, 12] rfl rfl rfl rfl rfl _ rfl (Nat.le_of_ble_eq_true rfl) d_NS_copyDeeper_105 (show _ + 6000 ≤ 12000 by omega) (show _ + 36000 ≤ 72000 by omega) (fun _ _ _ _ h => by obtain ⟨_, _, h2, _⟩ := h; rw [h2]; exact Nat.le_of_ble_eq_true rfl) (fun v w dc_7 ds_7 hp => ?_)
              obtain ⟨sp_7, rfl, rfl, spk_7, f_7⟩ := hp
              refine g_wsP (nsO x g kp pa la s n te sp ++ rowW E te tec ++ scW E s sc ++ rowW E sp sp_7) rfl rfl ?_
              subst ej
              refine g_iinc (pc := 108) hX d_NS_copyDeeper_108 (by decide) rfl ?_
              refine g_goto (pc := 111) (tgt := 22) hX d_NS_copyDeeper_111 (by decide) ?_
              refine g_lv [(0, .ref x), (2, .int (iI e)), (3, .int (iI (dep (rF tec) v : Int))), (4, .int (iI ((v + σ v : Nat) : Int))), (5, .int (iI ((v + (i + 1) : Nat) : Int)))] ⟨rfl, rfl, rfl, rfl, rfl, trivial⟩ ?_
              exact ih (i + 1) sp_7 _ _ (by omega) (by omega) spk_7 (by rw [f_7.1, hl, vL_succ, hv, List.append_assoc]) (hg.tr f_7.2.2)
            · exact absurd (by decide) c_6
          · refine g_iconst (pc := 70) hX d_NS_copyDeeper_70 ?_
            refine g_goto (pc := 71) (tgt := 75) hX d_NS_copyDeeper_71 (by decide) ?_
            refine g_istore (pc := 75) hX d_NS_copyDeeper_75 (by decide) ?_
            refine g_aload_n (pc := 77) hX 0 d_NS_copyDeeper_77 rfl rfl ?_
            refine g_get (pc := 78) hX f_NS_46 0 rfl rfl d_NS_copyDeeper_78 ?_
            refine g_aload_n (pc := 81) hX 0 d_NS_copyDeeper_81 rfl rfl ?_
            refine g_get (pc := 82) hX f_NS_43 0 rfl rfl d_NS_copyDeeper_82 ?_
            refine g_iload (pc := 85) hX d_NS_copyDeeper_85 rfl ?_
            refine g_iV (pc := 87) hX (c_RW_kind l E te tec tek _ (by omega)) gy_RW_kind gv_RW_kind w_273 rfl (by decide) (by decide) [1, 2, 3, 4] rfl rfl rfl rfl rfl _ rfl (Nat.le_of_ble_eq_true rfl) d_NS_copyDeeper_87 (show _ + 0 ≤ 12000 by omega) (show _ + 0 ≤ 72000 by omega) ?_
            rw [q1]
            refine g_iload (pc := 90) hX d_NS_copyDeeper_90 rfl ?_
            refine g_if_eq (pc := 92) (tgt := 103) hX d_NS_copyDeeper_92 (by decide) (by decide) (fun c_8 => ?_) (fun c_8 => ?_)
            · exact absurd c_8 (by decide)
            · refine g_lload (pc := 95) hX d_NS_copyDeeper_95 rfl ?_
              refine g_iload_n (pc := 97) hX 2 d_NS_copyDeeper_97 rfl rfl ?_
              refine g_i2l (pc := 98) hX d_NS_copyDeeper_98 (by omega) ?_
              refine g_ladd (pc := 99) hX d_NS_copyDeeper_99 ?_
              refine g_goto (pc := 100) (tgt := 105) hX d_NS_copyDeeper_100 (by decide) ?_
              have hv : vN (rF tec) (rG tec) v e j = (rF tec j, rG tec j + e) := by unfold vN; rw [if_pos (by omega)]
              refine g_callV (pc := 105) hX (c_RW_add l E sp ρ hρ _ (by omega) _ (by omega) (by omega)) gy_RW_add gv_RW_add w_160 rfl (by decide) (by decide) [9, 10, 11, 12] rfl rfl rfl rfl rfl _ rfl (Nat.le_of_ble_eq_true rfl) d_NS_copyDeeper_105 (show _ + 6000 ≤ 12000 by omega) (show _ + 36000 ≤ 72000 by omega) (fun _ _ _ _ h => by obtain ⟨_, _, h2, _⟩ := h; rw [h2]; exact Nat.le_of_ble_eq_true rfl) (fun v w dc_9 ds_9 hp => ?_)
              obtain ⟨sp_9, rfl, rfl, spk_9, f_9⟩ := hp
              refine g_wsP (nsO x g kp pa la s n te sp ++ rowW E te tec ++ scW E s sc ++ rowW E sp sp_9) rfl rfl ?_
              subst ej
              refine g_iinc (pc := 108) hX d_NS_copyDeeper_108 (by decide) rfl ?_
              refine g_goto (pc := 111) (tgt := 22) hX d_NS_copyDeeper_111 (by decide) ?_
              refine g_lv [(0, .ref x), (2, .int (iI e)), (3, .int (iI (dep (rF tec) v : Int))), (4, .int (iI ((v + σ v : Nat) : Int))), (5, .int (iI ((v + (i + 1) : Nat) : Int)))] ⟨rfl, rfl, rfl, rfl, rfl, trivial⟩ ?_
              exact ih (i + 1) sp_9 _ _ (by omega) (by omega) spk_9 (by rw [f_9.1, hl, vL_succ, hv, List.append_assoc]) (hg.tr f_9.2.2)
  refine g_lv [(0, .ref x), (2, .int (iI e)), (3, .int (iI (dep (rF tec) v : Int))), (4, .int (iI ((v + σ v : Nat) : Int))), (5, .int (iI ((v + 0 : Nat) : Int)))] ⟨rfl, rfl, rfl, rfl, rfl, trivial⟩ ?_
  exact loop (σ v + 1) 0 spc 0 0 (by omega) (by omega) spk (by simp [vL]) (rGrow.rf spc)
  

abbrev rm_NS_copyLastPart : Room := { frames := 5, cells := 18000, slots := 108000, locals := 121 }
set_option maxHeartbeats 4000000 in
set_option maxRecDepth 100000 in
theorem c_NS_copyLastPart (l : Launch) (E : gE) (x g kp pa la s n te sp : Nat) (tec : RowT) (tek : rowOK tec) (sc : ScT) (sk : scOK sc) (spc : RowT) (spk : rowOK spc) (σ : Nat → Nat) (hm : mea tec σ) (hs : scFor sc tec) (hb : tB tec) (b : Nat) (v : Nat) (h0 : b < rN tec ∧ pP (rF tec b) ∧ v < rN tec ∧ rN spc + (bL (rF tec) (rG tec) b v (σ v) (b + 1 + σ (b + 1)) (σ (b + 1 + σ (b + 1)))).length ≤ 3000) : Ct l E y_NS_copyLastPart b_NS_copyLastPart 10 none rm_NS_copyLastPart [.ref x, .int (iI (b : Int)), .int (iI (v : Int))] (nsO x g kp pa la s n te sp ++ rowW E te tec ++ scW E s sc ++ rowW E sp spc) (fun vv ww dc ds => ∃ ρ, vv = none ∧ ww = nsO x g kp pa la s n te sp ++ rowW E te tec ++ scW E s sc ++ rowW E sp ρ ∧ rowOK ρ ∧ (rL ρ = rL spc ++ bL (rF tec) (rG tec) b v (σ v) (b + 1 + σ (b + 1)) (σ (b + 1 + σ (b + 1))) ∧ rGrow spc ρ dc ds)) := by
  obtain ⟨⟨te1, te2, te3, te4⟩, tef, teg, teh⟩ := id tek
  obtain ⟨⟨sp1, sp2, sp3, sp4⟩, spf, spg, sph⟩ := id spk
  obtain ⟨hb1, hb2, v1, h3⟩ := h0
  have ed := hs.d hb1
  obtain ⟨z1, z2, z3⟩ := hm.pt hb1 hb2
  obtain ⟨z4, z5⟩ := hm.en hb1
  obtain ⟨y4, y5⟩ := hm.en v1
  have es : rS tec ((b : Int) + 1) = σ (b + 1) := hm.sz z1
  have eb := hm.sz hb1
  have dl : dep (rF tec) b ≤ b := env_le hm.1 hm.2.1 hb1
  have zs := hs.1
  refine g_start (by decide) (Nat.le_of_ble_eq_true rfl) (fun X hX hE hin => ?_)
  refine g_aload_n (pc := 0) hX 0 d_NS_copyLastPart_0 rfl rfl ?_
  refine g_get (pc := 1) hX f_NS_32 0 rfl rfl d_NS_copyLastPart_1 ?_
  refine g_iload_n (pc := 4) hX 1 d_NS_copyLastPart_4 rfl rfl ?_
  refine g_iV (pc := 5) hX (c_SC_depth l E s sc sk _ (by omega)) gy_SC_depth gv_SC_depth w_319 rfl (by decide) (by decide) [5, 6, 7, 8] rfl rfl rfl rfl rfl _ rfl (Nat.le_of_ble_eq_true rfl) d_NS_copyLastPart_5 (show _ + 0 ≤ 18000 by omega) (show _ + 0 ≤ 108000 by omega) ?_
  refine g_iconst (pc := 8) hX d_NS_copyLastPart_8 ?_
  refine g_iadd (pc := 9) hX d_NS_copyLastPart_9 ?_
  rw [ed]
  refine g_istore_n (pc := 10) hX 3 d_NS_copyLastPart_10 rfl (by decide) ?_
  refine g_aload_n (pc := 11) hX 0 d_NS_copyLastPart_11 rfl rfl ?_
  refine g_get (pc := 12) hX f_NS_43 0 rfl rfl d_NS_copyLastPart_12 ?_
  refine g_iload_n (pc := 15) hX 1 d_NS_copyLastPart_15 rfl rfl ?_
  refine g_iV (pc := 16) hX (c_RW_end l E te tec tek _ (by omega)) gy_RW_end gv_RW_end w_320 rfl (by decide) (by decide) [1, 2, 3, 4] rfl rfl rfl rfl rfl _ rfl (Nat.le_of_ble_eq_true rfl) d_NS_copyLastPart_16 (show _ + 0 ≤ 18000 by omega) (show _ + 0 ≤ 108000 by omega) ?_
  refine g_st (.int (iI ((b + σ b : Nat) : Int)) :: []) (by rw [eb] <;> rfl) ?_
  refine g_istore (pc := 19) hX d_NS_copyLastPart_19 (by decide) ?_
  refine g_aload_n (pc := 21) hX 0 d_NS_copyLastPart_21 rfl rfl ?_
  refine g_get (pc := 22) hX f_NS_43 0 rfl rfl d_NS_copyLastPart_22 ?_
  refine g_iload_n (pc := 25) hX 1 d_NS_copyLastPart_25 rfl rfl ?_
  refine g_iV (pc := 26) hX (c_RW_second l E te tec tek _ (by omega) (by omega)) gy_RW_second gv_RW_second w_321 rfl (by decide) (by decide) [1, 2, 3, 4] rfl rfl rfl rfl rfl _ rfl (Nat.le_of_ble_eq_true rfl) d_NS_copyLastPart_26 (show _ + 0 ≤ 18000 by omega) (show _ + 0 ≤ 108000 by omega) ?_
  refine g_st (.int (iI ((b + 1 + σ (b + 1) : Nat) : Int)) :: []) (by rw [show (b : Int) + 1 + rS tec ((b : Int) + 1) = ((b + 1 + σ (b + 1) : Nat) : Int) by omega]) ?_
  refine g_istore (pc := 29) hX d_NS_copyLastPart_29 (by decide) ?_
  have loop : ∀ (d : Nat) (i : Nat) (ρ : RowT) (c0 s0 : Nat), σ (b + 1 + σ (b + 1)) < i + d → i ≤ σ (b + 1 + σ (b + 1)) → rowOK ρ → rL ρ = rL spc ++ bL (rF tec) (rG tec) b v (σ v) (b + 1 + σ (b + 1)) i → rGrow spc ρ c0 s0 → gW X (nsO x g kp pa la s n te sp ++ rowW E te tec ++ scW E s sc ++ rowW E sp ρ) c0 s0 31 [(0, .ref x), (2, .int (iI (v : Int))), (3, .int (iI ((dep (rF tec) b : Int) + 1))), (4, .int (iI ((b + σ b : Nat) : Int))), (5, .int (iI ((b + 1 + σ (b + 1) + i : Nat) : Int)))] [] := by
    intro d
    induction d with
    | zero => intro i ρ c0 s0 hfu hi hρ hl hg; omega
    | succ d ih =>
      intro i ρ c0 s0 hfu hi hρ hl hg
      obtain ⟨g1, g2, g3⟩ := id hg
      obtain ⟨⟨p1, p2, p3, p4⟩, -⟩ := id hρ
      have hL : rN ρ = rN spc + (bL (rF tec) (rG tec) b v (σ v) (b + 1 + σ (b + 1)) i).length := by have := congrArg List.length hl; rw [List.length_append, Lr_len, Lr_len] at this; exact this
      refine g_iload (pc := 31) hX d_NS_copyLastPart_31 rfl ?_
      refine g_iload (pc := 33) hX d_NS_copyLastPart_33 rfl ?_
      refine g_icmp_ge (pc := 35) (tgt := 138) hX d_NS_copyLastPart_35 (by decide) (by omega) (by omega) (fun c_1 => ?_) (fun c_1 => ?_)
      · exact g_vret (pc := 138) hX hE d_NS_copyLastPart_138 (show _ ≤ 18000 by omega) (show _ ≤ 108000 by omega) ⟨ρ, rfl, rfl, hρ, by rw [hl, show i = σ (b + 1 + σ (b + 1)) by omega], hg⟩
      · obtain ⟨j, ej⟩ : ∃ j : Nat, j = b + 1 + σ (b + 1) + i := ⟨_, rfl⟩
        rw [← ej]
        have q1 : rK tec (j : Int) = rF tec j := rK_t (by omega)
        have q3 : rB tec (j : Int) = rG tec j := rB_t (by omega)
        have q5 := hs.d (show j < rN tec by omega)
        have dj : dep (rF tec) j ≤ j := env_le hm.1 hm.2.1 (show j < rN tec by omega)
        have r1 := tef j
        have r3 := teg j
        obtain ⟨b1, b2⟩ := hb j (by omega)
        have mono := bL_mono (rF tec) (rG tec) b v (σ v) (b + 1 + σ (b + 1)) (i + 1) (σ (b + 1 + σ (b + 1)) - (i + 1))
        rw [show i + 1 + (σ (b + 1 + σ (b + 1)) - (i + 1)) = σ (b + 1 + σ (b + 1)) by omega, bL_succ, List.length_append, ← ej] at mono
        refine g_aload_n (pc := 38) hX 0 d_NS_copyLastPart_38 rfl rfl ?_
        refine g_get (pc := 39) hX f_NS_43 0 rfl rfl d_NS_copyLastPart_39 ?_
        refine g_iload (pc := 42) hX d_NS_copyLastPart_42 rfl ?_
        refine g_iV (pc := 44) hX (c_RW_kind l E te tec tek _ (by omega)) gy_RW_kind gv_RW_kind w_273 rfl (by decide) (by decide) [1, 2, 3, 4] rfl rfl rfl rfl rfl _ rfl (Nat.le_of_ble_eq_true rfl) d_NS_copyLastPart_44 (show _ + 0 ≤ 18000 by omega) (show _ + 0 ≤ 108000 by omega) ?_
        rw [q1]
        refine g_istore (pc := 47) hX d_NS_copyLastPart_47 (by decide) ?_
        refine g_aload_n (pc := 49) hX 0 d_NS_copyLastPart_49 rfl rfl ?_
        refine g_get (pc := 50) hX f_NS_43 0 rfl rfl d_NS_copyLastPart_50 ?_
        refine g_iload (pc := 53) hX d_NS_copyLastPart_53 rfl ?_
        refine g_lV (pc := 55) hX (c_RW_beside l E te tec tek _ (by omega)) gy_RW_beside gv_RW_beside w_274 rfl (by decide) (by decide) [1, 2, 3, 4] rfl rfl rfl rfl rfl _ rfl (Nat.le_of_ble_eq_true rfl) d_NS_copyLastPart_55 (show _ + 0 ≤ 18000 by omega) (show _ + 0 ≤ 108000 by omega) ?_
        rw [q3]
        refine g_lstore (pc := 58) hX d_NS_copyLastPart_58 (by decide) ?_
        refine g_aload_n (pc := 60) hX 0 d_NS_copyLastPart_60 rfl rfl ?_
        refine g_get (pc := 61) hX f_NS_32 0 rfl rfl d_NS_copyLastPart_61 ?_
        refine g_iload (pc := 64) hX d_NS_copyLastPart_64 rfl ?_
        refine g_iV (pc := 66) hX (c_SC_depth l E s sc sk _ (by omega)) gy_SC_depth gv_SC_depth w_319 rfl (by decide) (by decide) [5, 6, 7, 8] rfl rfl rfl rfl rfl _ rfl (Nat.le_of_ble_eq_true rfl) d_NS_copyLastPart_66 (show _ + 0 ≤ 18000 by omega) (show _ + 0 ≤ 108000 by omega) ?_
        rw [q5]
        refine g_iload_n (pc := 69) hX 3 d_NS_copyLastPart_69 rfl rfl ?_
        refine g_isub (pc := 70) hX d_NS_copyLastPart_70 ?_
        refine g_istore (pc := 71) hX d_NS_copyLastPart_71 (by decide) ?_
        refine g_iload (pc := 73) hX d_NS_copyLastPart_73 rfl ?_
        refine g_if_ne (pc := 75) (tgt := 87) hX d_NS_copyLastPart_75 (by decide) (by omega) (fun c_2 => ?_) (fun c_2 => ?_)
        · have hnl : nL (rF tec) (rG tec) b v (σ v) j = [(rF tec j, rG tec j)] := nL_1 (by omega)
          rw [hnl] at mono
          simp only [List.length_cons, List.length_nil] at mono
          refine g_aload_n (pc := 87) hX 0 d_NS_copyLastPart_87 rfl rfl ?_
          refine g_get (pc := 88) hX f_NS_46 0 rfl rfl d_NS_copyLastPart_88 ?_
          refine g_iload (pc := 91) hX d_NS_copyLastPart_91 rfl ?_
          refine g_lload (pc := 93) hX d_NS_copyLastPart_93 rfl ?_
          refine g_callV (pc := 95) hX (c_RW_add l E sp ρ hρ _ (by omega) _ (by omega) (by omega)) gy_RW_add gv_RW_add w_160 rfl (by decide) (by decide) [9, 10, 11, 12] rfl rfl rfl rfl rfl _ rfl (Nat.le_of_ble_eq_true rfl) d_NS_copyLastPart_95 (show _ + 6000 ≤ 18000 by omega) (show _ + 36000 ≤ 108000 by omega) (fun _ _ _ _ h => by obtain ⟨_, _, h2, _⟩ := h; rw [h2]; exact Nat.le_of_ble_eq_true rfl) (fun v w dc_3 ds_3 hp => ?_)
          obtain ⟨sp_3, rfl, rfl, spk_3, f_3⟩ := hp
          refine g_wsP (nsO x g kp pa la s n te sp ++ rowW E te tec ++ scW E s sc ++ rowW E sp sp_3) rfl rfl ?_
          refine g_goto (pc := 98) (tgt := 132) hX d_NS_copyLastPart_98 (by decide) ?_
          rw [ej] at hnl
          subst ej
          refine g_iinc (pc := 132) hX d_NS_copyLastPart_132 (by decide) rfl ?_
          refine g_goto (pc := 135) (tgt := 31) hX d_NS_copyLastPart_135 (by decide) ?_
          refine g_lv [(0, .ref x), (2, .int (iI (v : Int))), (3, .int (iI ((dep (rF tec) b : Int) + 1))), (4, .int (iI ((b + σ b : Nat) : Int))), (5, .int (iI ((b + 1 + σ (b + 1) + (i + 1) : Nat) : Int)))] ⟨rfl, rfl, rfl, rfl, rfl, trivial⟩ ?_
          exact ih (i + 1) sp_3 _ _ (by omega) (by omega) spk_3 (by rw [f_3.1, hl, bL_succ, hnl, List.append_assoc]) (hg.tr f_3.2.2)
        · refine g_lload (pc := 78) hX d_NS_copyLastPart_78 rfl ?_
          refine g_iload (pc := 80) hX d_NS_copyLastPart_80 rfl ?_
          refine g_i2l (pc := 82) hX d_NS_copyLastPart_82 (by omega) ?_
          refine g_lcmp_ge (pc := 83) (tgt := 101) hX d_NS_copyLastPart_83 d_NS_copyLastPart_84 (by decide) (by omega) (by omega) (fun c_4 => ?_) (fun c_4 => ?_)
          · refine g_lload (pc := 101) hX d_NS_copyLastPart_101 rfl ?_
            refine g_iload (pc := 103) hX d_NS_copyLastPart_103 rfl ?_
            refine g_i2l (pc := 105) hX d_NS_copyLastPart_105 (by omega) ?_
            refine g_lcmp_ne (pc := 106) (tgt := 120) hX d_NS_copyLastPart_106 d_NS_copyLastPart_107 (by decide) (by omega) (by omega) (fun c_5 => ?_) (fun c_5 => ?_)
            · have hnl : nL (rF tec) (rG tec) b v (σ v) j = [(0, rG tec j - 1)] := nL_3 (by omega) (by omega)
              rw [hnl] at mono
              simp only [List.length_cons, List.length_nil] at mono
              refine g_aload_n (pc := 120) hX 0 d_NS_copyLastPart_120 rfl rfl ?_
              refine g_get (pc := 121) hX f_NS_46 0 rfl rfl d_NS_copyLastPart_121 ?_
              refine g_iconst (pc := 124) hX d_NS_copyLastPart_124 ?_
              refine g_lload (pc := 125) hX d_NS_copyLastPart_125 rfl ?_
              refine g_lconst (pc := 127) hX 1 d_NS_copyLastPart_127 (by decide) ?_
              refine g_lsub (pc := 128) hX d_NS_copyLastPart_128 ?_
              refine g_callV (pc := 129) hX (c_RW_add l E sp ρ hρ _ (by omega) _ (by omega) (by omega)) gy_RW_add gv_RW_add w_160 rfl (by decide) (by decide) [9, 10, 11, 12] rfl rfl rfl rfl rfl _ rfl (Nat.le_of_ble_eq_true rfl) d_NS_copyLastPart_129 (show _ + 6000 ≤ 18000 by omega) (show _ + 36000 ≤ 108000 by omega) (fun _ _ _ _ h => by obtain ⟨_, _, h2, _⟩ := h; rw [h2]; exact Nat.le_of_ble_eq_true rfl) (fun v w dc_6 ds_6 hp => ?_)
              obtain ⟨sp_6, rfl, rfl, spk_6, f_6⟩ := hp
              refine g_wsP (nsO x g kp pa la s n te sp ++ rowW E te tec ++ scW E s sc ++ rowW E sp sp_6) rfl rfl ?_
              rw [ej] at hnl
              subst ej
              refine g_iinc (pc := 132) hX d_NS_copyLastPart_132 (by decide) rfl ?_
              refine g_goto (pc := 135) (tgt := 31) hX d_NS_copyLastPart_135 (by decide) ?_
              refine g_lv [(0, .ref x), (2, .int (iI (v : Int))), (3, .int (iI ((dep (rF tec) b : Int) + 1))), (4, .int (iI ((b + σ b : Nat) : Int))), (5, .int (iI ((b + 1 + σ (b + 1) + (i + 1) : Nat) : Int)))] ⟨rfl, rfl, rfl, rfl, rfl, trivial⟩ ?_
              exact ih (i + 1) sp_6 _ _ (by omega) (by omega) spk_6 (by rw [f_6.1, hl, bL_succ, hnl, List.append_assoc]) (hg.tr f_6.2.2)
            · have hnl : nL (rF tec) (rG tec) b v (σ v) j = vL (rF tec) (rG tec) v (σ v) ((dep (rF tec) j : Int) - ((dep (rF tec) b : Int) + 1)) := nL_2 (by omega) (by omega)
              rw [hnl, vL_len] at mono
              refine g_aload_n (pc := 110) hX 0 d_NS_copyLastPart_110 rfl rfl ?_
              refine g_iload_n (pc := 111) hX 2 d_NS_copyLastPart_111 rfl rfl ?_
              refine g_iload (pc := 112) hX d_NS_copyLastPart_112 rfl ?_
              refine g_callV (pc := 114) hX (c_NS_copyDeeper l E x g kp pa la s n te sp tec tek sc sk ρ hρ _ hm hs hb _ _ ⟨by omega, by omega, by omega, by omega⟩) gy_NS_copyDeeper gv_NS_copyDeeper w_338 rfl (by decide) (by decide) [0, 1, 2, 3, 4, 5, 6, 7, 8, 9, 10, 11, 12] rfl rfl rfl rfl rfl _ rfl (Nat.le_of_ble_eq_true rfl) d_NS_copyLastPart_114 (show _ + 12000 ≤ 18000 by omega) (show _ + 72000 ≤ 108000 by omega) (fun _ _ _ _ h => by obtain ⟨_, _, h2, _⟩ := h; rw [h2]; exact Nat.le_of_ble_eq_true rfl) (fun v w dc_7 ds_7 hp => ?_)
              obtain ⟨sp_7, rfl, rfl, spk_7, f_7⟩ := hp
              refine g_wsP (nsO x g kp pa la s n te sp ++ rowW E te tec ++ scW E s sc ++ rowW E sp sp_7) rfl rfl ?_
              refine g_goto (pc := 117) (tgt := 132) hX d_NS_copyLastPart_117 (by decide) ?_
              rw [ej] at hnl
              subst ej
              refine g_iinc (pc := 132) hX d_NS_copyLastPart_132 (by decide) rfl ?_
              refine g_goto (pc := 135) (tgt := 31) hX d_NS_copyLastPart_135 (by decide) ?_
              refine g_lv [(0, .ref x), (2, .int (iI (v : Int))), (3, .int (iI ((dep (rF tec) b : Int) + 1))), (4, .int (iI ((b + σ b : Nat) : Int))), (5, .int (iI ((b + 1 + σ (b + 1) + (i + 1) : Nat) : Int)))] ⟨rfl, rfl, rfl, rfl, rfl, trivial⟩ ?_
              exact ih (i + 1) sp_7 _ _ (by omega) (by omega) spk_7 (by rw [f_7.1, hl, bL_succ, hnl, List.append_assoc]) (hg.tr f_7.2)
          · have hnl : nL (rF tec) (rG tec) b v (σ v) j = [(rF tec j, rG tec j)] := nL_1 (by omega)
            rw [hnl] at mono
            simp only [List.length_cons, List.length_nil] at mono
            refine g_aload_n (pc := 87) hX 0 d_NS_copyLastPart_87 rfl rfl ?_
            refine g_get (pc := 88) hX f_NS_46 0 rfl rfl d_NS_copyLastPart_88 ?_
            refine g_iload (pc := 91) hX d_NS_copyLastPart_91 rfl ?_
            refine g_lload (pc := 93) hX d_NS_copyLastPart_93 rfl ?_
            refine g_callV (pc := 95) hX (c_RW_add l E sp ρ hρ _ (by omega) _ (by omega) (by omega)) gy_RW_add gv_RW_add w_160 rfl (by decide) (by decide) [9, 10, 11, 12] rfl rfl rfl rfl rfl _ rfl (Nat.le_of_ble_eq_true rfl) d_NS_copyLastPart_95 (show _ + 6000 ≤ 18000 by omega) (show _ + 36000 ≤ 108000 by omega) (fun _ _ _ _ h => by obtain ⟨_, _, h2, _⟩ := h; rw [h2]; exact Nat.le_of_ble_eq_true rfl) (fun v w dc_8 ds_8 hp => ?_)
            obtain ⟨sp_8, rfl, rfl, spk_8, f_8⟩ := hp
            refine g_wsP (nsO x g kp pa la s n te sp ++ rowW E te tec ++ scW E s sc ++ rowW E sp sp_8) rfl rfl ?_
            refine g_goto (pc := 98) (tgt := 132) hX d_NS_copyLastPart_98 (by decide) ?_
            rw [ej] at hnl
            subst ej
            refine g_iinc (pc := 132) hX d_NS_copyLastPart_132 (by decide) rfl ?_
            refine g_goto (pc := 135) (tgt := 31) hX d_NS_copyLastPart_135 (by decide) ?_
            refine g_lv [(0, .ref x), (2, .int (iI (v : Int))), (3, .int (iI ((dep (rF tec) b : Int) + 1))), (4, .int (iI ((b + σ b : Nat) : Int))), (5, .int (iI ((b + 1 + σ (b + 1) + (i + 1) : Nat) : Int)))] ⟨rfl, rfl, rfl, rfl, rfl, trivial⟩ ?_
            exact ih (i + 1) sp_8 _ _ (by omega) (by omega) spk_8 (by rw [f_8.1, hl, bL_succ, hnl, List.append_assoc]) (hg.tr f_8.2.2)
  refine g_lv [(0, .ref x), (2, .int (iI (v : Int))), (3, .int (iI ((dep (rF tec) b : Int) + 1))), (4, .int (iI ((b + σ b : Nat) : Int))), (5, .int (iI ((b + 1 + σ (b + 1) + 0 : Nat) : Int)))] ⟨rfl, rfl, rfl, rfl, rfl, trivial⟩ ?_
  exact loop (σ (b + 1 + σ (b + 1)) + 1) 0 spc 0 0 (by omega) (by omega) spk (by simp [bL]) (rGrow.rf spc)
  
