abbrev rm_NS_canBeBeside : Room := { frames := 2, cells := 0, slots := 0, locals := 49 }
set_option maxHeartbeats 4000000 in
set_option maxRecDepth 100000 in
theorem c_NS_canBeBeside (l : Launch) (E : gE) (k : Int) (hk : gin k) (b : Int) (hb : gil b) : CtI l E y_NS_canBeBeside b_NS_canBeBeside 3 (some .boolean) rm_NS_canBeBeside [.int (iI k), .long (lI b)] ([]) (bZ (okBes k b)) := by
  refine g_start (by decide) (Nat.le_of_ble_eq_true rfl) (fun X hX hE hin => ?_)
  refine g_iload_n (pc := 0) hX 0 d_NS_canBeBeside_0 rfl rfl ?_
  by_cases e_0 : k = 0
  · subst e_0
    refine g_tsw (pc := 1) (tgt := 44) hX d_NS_canBeBeside_1 (by decide) (by decide) (by decide) rfl (by decide) ?_
    refine g_lload_n (pc := 44) hX 1 d_NS_canBeBeside_44 rfl rfl ?_
    refine g_iS (pc := 45) hX (c_NM_canBeGiven l E _ (by omega)) gy_NM_canBeGiven w_130 w_129 rfl (by decide) (by decide) [] rfl rfl _ rfl (Nat.le_of_ble_eq_true rfl) d_NS_canBeBeside_45 (by decide) (by decide) ?_
    exact g_zret (pc := 48) hX hE (by first | exact Or.inl rfl | exact Or.inr rfl | exact bZ_01 _) d_NS_canBeBeside_48 (by decide) (by decide) ⟨by rw [bZ_c (okBes_n (k := 0) (by decide))], rfl, rfl, rfl⟩
  by_cases e_1 : k = 1
  · subst e_1
    refine g_tsw (pc := 1) (tgt := 44) hX d_NS_canBeBeside_1 (by decide) (by decide) (by decide) rfl (by decide) ?_
    refine g_lload_n (pc := 44) hX 1 d_NS_canBeBeside_44 rfl rfl ?_
    refine g_iS (pc := 45) hX (c_NM_canBeGiven l E _ (by omega)) gy_NM_canBeGiven w_130 w_129 rfl (by decide) (by decide) [] rfl rfl _ rfl (Nat.le_of_ble_eq_true rfl) d_NS_canBeBeside_45 (by decide) (by decide) ?_
    exact g_zret (pc := 48) hX hE (by first | exact Or.inl rfl | exact Or.inr rfl | exact bZ_01 _) d_NS_canBeBeside_48 (by decide) (by decide) ⟨by rw [bZ_c (okBes_n (k := 1) (by decide))], rfl, rfl, rfl⟩
  by_cases e_2 : k = 2
  · subst e_2
    refine g_tsw (pc := 1) (tgt := 44) hX d_NS_canBeBeside_1 (by decide) (by decide) (by decide) rfl (by decide) ?_
    refine g_lload_n (pc := 44) hX 1 d_NS_canBeBeside_44 rfl rfl ?_
    refine g_iS (pc := 45) hX (c_NM_canBeGiven l E _ (by omega)) gy_NM_canBeGiven w_130 w_129 rfl (by decide) (by decide) [] rfl rfl _ rfl (Nat.le_of_ble_eq_true rfl) d_NS_canBeBeside_45 (by decide) (by decide) ?_
    exact g_zret (pc := 48) hX hE (by first | exact Or.inl rfl | exact Or.inr rfl | exact bZ_01 _) d_NS_canBeBeside_48 (by decide) (by decide) ⟨by rw [bZ_c (okBes_n (k := 2) (by decide))], rfl, rfl, rfl⟩
  by_cases e_3 : k = 3
  · subst e_3
    refine g_tsw (pc := 1) (tgt := 44) hX d_NS_canBeBeside_1 (by decide) (by decide) (by decide) rfl (by decide) ?_
    refine g_lload_n (pc := 44) hX 1 d_NS_canBeBeside_44 rfl rfl ?_
    refine g_iS (pc := 45) hX (c_NM_canBeGiven l E _ (by omega)) gy_NM_canBeGiven w_130 w_129 rfl (by decide) (by decide) [] rfl rfl _ rfl (Nat.le_of_ble_eq_true rfl) d_NS_canBeBeside_45 (by decide) (by decide) ?_
    exact g_zret (pc := 48) hX hE (by first | exact Or.inl rfl | exact Or.inr rfl | exact bZ_01 _) d_NS_canBeBeside_48 (by decide) (by decide) ⟨by rw [bZ_c (okBes_n (k := 3) (by decide))], rfl, rfl, rfl⟩
  by_cases e_4 : k = 4
  · subst e_4
    refine g_tsw (pc := 1) (tgt := 69) hX d_NS_canBeBeside_1 (by decide) (by decide) (by decide) rfl (by decide) ?_
    refine g_lload_n (pc := 69) hX 1 d_NS_canBeBeside_69 rfl rfl ?_
    refine g_lconst (pc := 70) hX 0 d_NS_canBeBeside_70 (by decide) ?_
    refine g_lcmp_ne (pc := 71) (tgt := 79) hX d_NS_canBeBeside_71 d_NS_canBeBeside_72 (by decide) (by omega) (by omega) (fun c_1 => ?_) (fun c_1 => ?_)
    · refine g_iconst (pc := 79) hX d_NS_canBeBeside_79 ?_
      exact g_zret (pc := 80) hX hE (by first | exact Or.inl rfl | exact Or.inr rfl | exact bZ_01 _) d_NS_canBeBeside_80 (by decide) (by decide) ⟨by rw [bZ_f (fun q => absurd ((okBes_46 (by omega)).mpr q) (by omega))], rfl, rfl, rfl⟩
    · refine g_iconst (pc := 75) hX d_NS_canBeBeside_75 ?_
      refine g_goto (pc := 76) (tgt := 80) hX d_NS_canBeBeside_76 (by decide) ?_
      exact g_zret (pc := 80) hX hE (by first | exact Or.inl rfl | exact Or.inr rfl | exact bZ_01 _) d_NS_canBeBeside_80 (by decide) (by decide) ⟨by rw [bZ_t ((okBes_46 (by omega)).mp (by omega))], rfl, rfl, rfl⟩
  by_cases e_5 : k = 5
  · subst e_5
    refine g_tsw (pc := 1) (tgt := 49) hX d_NS_canBeBeside_1 (by decide) (by decide) (by decide) rfl (by decide) ?_
    refine g_lload_n (pc := 49) hX 1 d_NS_canBeBeside_49 rfl rfl ?_
    refine g_lconst (pc := 50) hX 0 d_NS_canBeBeside_50 (by decide) ?_
    refine g_lcmp_lt (pc := 51) (tgt := 67) hX d_NS_canBeBeside_51 d_NS_canBeBeside_52 (by decide) (by omega) (by omega) (fun c_2 => ?_) (fun c_2 => ?_)
    · refine g_iconst (pc := 67) hX d_NS_canBeBeside_67 ?_
      exact g_zret (pc := 68) hX hE (by first | exact Or.inl rfl | exact Or.inr rfl | exact bZ_01 _) d_NS_canBeBeside_68 (by decide) (by decide) ⟨by rw [bZ_f (show ¬ okBes 5 b from fun q => absurd (okBes_5.mpr q) (by omega))], rfl, rfl, rfl⟩
    · refine g_lload_n (pc := 55) hX 1 d_NS_canBeBeside_55 rfl rfl ?_
      refine g_ldc2 (pc := 56) hX 100 w_155 (by decide) d_NS_canBeBeside_56 ?_
      refine g_lcmp_gt (pc := 59) (tgt := 67) hX d_NS_canBeBeside_59 d_NS_canBeBeside_60 (by decide) (by omega) (by omega) (fun c_3 => ?_) (fun c_3 => ?_)
      · refine g_iconst (pc := 67) hX d_NS_canBeBeside_67 ?_
        exact g_zret (pc := 68) hX hE (by first | exact Or.inl rfl | exact Or.inr rfl | exact bZ_01 _) d_NS_canBeBeside_68 (by decide) (by decide) ⟨by rw [bZ_f (show ¬ okBes 5 b from fun q => absurd (okBes_5.mpr q) (by omega))], rfl, rfl, rfl⟩
      · refine g_iconst (pc := 63) hX d_NS_canBeBeside_63 ?_
        refine g_goto (pc := 64) (tgt := 68) hX d_NS_canBeBeside_64 (by decide) ?_
        exact g_zret (pc := 68) hX hE (by first | exact Or.inl rfl | exact Or.inr rfl | exact bZ_01 _) d_NS_canBeBeside_68 (by decide) (by decide) ⟨by rw [bZ_t (show okBes 5 b from okBes_5.mp (by omega))], rfl, rfl, rfl⟩
  by_cases e_6 : k = 6
  · subst e_6
    refine g_tsw (pc := 1) (tgt := 69) hX d_NS_canBeBeside_1 (by decide) (by decide) (by decide) rfl (by decide) ?_
    refine g_lload_n (pc := 69) hX 1 d_NS_canBeBeside_69 rfl rfl ?_
    refine g_lconst (pc := 70) hX 0 d_NS_canBeBeside_70 (by decide) ?_
    refine g_lcmp_ne (pc := 71) (tgt := 79) hX d_NS_canBeBeside_71 d_NS_canBeBeside_72 (by decide) (by omega) (by omega) (fun c_4 => ?_) (fun c_4 => ?_)
    · refine g_iconst (pc := 79) hX d_NS_canBeBeside_79 ?_
      exact g_zret (pc := 80) hX hE (by first | exact Or.inl rfl | exact Or.inr rfl | exact bZ_01 _) d_NS_canBeBeside_80 (by decide) (by decide) ⟨by rw [bZ_f (fun q => absurd ((okBes_46 (by omega)).mpr q) (by omega))], rfl, rfl, rfl⟩
    · refine g_iconst (pc := 75) hX d_NS_canBeBeside_75 ?_
      refine g_goto (pc := 76) (tgt := 80) hX d_NS_canBeBeside_76 (by decide) ?_
      exact g_zret (pc := 80) hX hE (by first | exact Or.inl rfl | exact Or.inr rfl | exact bZ_01 _) d_NS_canBeBeside_80 (by decide) (by decide) ⟨by rw [bZ_t ((okBes_46 (by omega)).mp (by omega))], rfl, rfl, rfl⟩
  refine g_tswO (pc := 1) (tgt := 81) hX d_NS_canBeBeside_1 (by omega) (by omega) (by decide) ?_
  refine g_iconst (pc := 81) hX d_NS_canBeBeside_81 ?_
  exact g_zret (pc := 82) hX hE (by first | exact Or.inl rfl | exact Or.inr rfl | exact bZ_01 _) d_NS_canBeBeside_82 (by decide) (by decide) ⟨by rw [bZ_f (okBes_o (by omega))], rfl, rfl, rfl⟩

abbrev rm_NS_global : Room := { frames := 2, cells := 0, slots := 0, locals := 49 }
set_option maxHeartbeats 4000000 in
set_option maxRecDepth 100000 in
theorem c_NS_global (l : Launch) (E : gE) (x g kp pa la s n te sp : Nat) (gc : GlT) (gk : glOK gc) (z : Int) (hz : gil z) : Ct l E y_NS_global b_NS_global 3 (some .int) rm_NS_global [.ref x, .long (lI z)] (nsO x g kp pa la s n te sp ++ glW E g gc) (fun v w dc ds => ∃ γ, ∃ r : Int, v = some (.int (iI r)) ∧ w = nsO x g kp pa la s n te sp ++ glW E g γ ∧ glOK γ ∧ ((okName z ∧ uN gc < 200 ∧ fnd (uN gc) (uF gc) z = -1 ∧ r = uN gc ∧ γ = (gc.1, uN gc + 1, uZ (uF gc) (uN gc) z)) ∨ (¬ (okName z ∧ uN gc < 200 ∧ fnd (uN gc) (uF gc) z = -1) ∧ r = -1 ∧ γ = gc)) ∧ dc = 0 ∧ ds = 0) := by
  obtain ⟨g1, g2⟩ := id gk
  refine g_start (by decide) (Nat.le_of_ble_eq_true rfl) (fun X hX hE hin => ?_)
  refine g_lload_n (pc := 0) hX 1 d_NS_global_0 rfl rfl ?_
  refine g_iS (pc := 1) hX (c_NM_canBeGiven l E _ (by omega)) gy_NM_canBeGiven w_130 w_129 rfl (by decide) (by decide) [] rfl rfl _ rfl (Nat.le_of_ble_eq_true rfl) d_NS_global_1 (by decide) (by decide) ?_
  refine g_beq (pc := 4) (tgt := 18) hX d_NS_global_4 (by decide) (fun c_1 => ?_) (fun c_1 => ?_)
  · refine g_iconst (pc := 18) hX d_NS_global_18 ?_
    exact g_iret (pc := 19) hX hE d_NS_global_19 (by decide) (by decide) ⟨gc, -1, rfl, rfl, gk, Or.inr ⟨fun q => c_1 q.1, rfl, rfl⟩, rfl, rfl⟩
  · refine g_aload_n (pc := 7) hX 0 d_NS_global_7 rfl rfl ?_
    refine g_get (pc := 8) hX f_NS_10 0 rfl rfl d_NS_global_8 ?_
    refine g_lload_n (pc := 11) hX 1 d_NS_global_11 rfl rfl ?_
    refine g_callV (pc := 12) hX (c_GL_add l E g gc gk _ (by omega)) gy_GL_add gv_GL_add w_140 rfl (by decide) (by decide) [1, 2] rfl rfl rfl rfl rfl _ rfl (Nat.le_of_ble_eq_true rfl) d_NS_global_12 (by decide) (by decide) (fun _ _ _ _ h => by obtain ⟨_, _, h2, _⟩ := h; rw [h2]; exact Nat.le_of_ble_eq_true rfl) (fun v w dc_2 ds_2 hp => ?_)
    obtain ⟨g_2, rfl, rfl, gk_2, f_2_1, rfl, rfl⟩ := hp
    refine g_wsP (nsO x g kp pa la s n te sp ++ glW E g g_2) rfl rfl ?_
    have hgl : (okName z ∧ uN gc < 200 ∧ fnd (uN gc) (uF gc) z = -1 ∧ (if uN gc < 200 ∧ fnd (uN gc) (uF gc) z = -1 then (uN gc : Int) else -1) = uN gc ∧ g_2 = (gc.1, uN gc + 1, uZ (uF gc) (uN gc) z)) ∨ (¬ (okName z ∧ uN gc < 200 ∧ fnd (uN gc) (uF gc) z = -1) ∧ (if uN gc < 200 ∧ fnd (uN gc) (uF gc) z = -1 then (uN gc : Int) else -1) = -1 ∧ g_2 = gc) := by
      by_cases hq : uN gc < 200 ∧ fnd (uN gc) (uF gc) z = -1
      · exact Or.inl ⟨c_1, hq.1, hq.2, by rw [if_pos hq], by rw [f_2_1, if_pos hq]⟩
      · exact Or.inr ⟨fun q => hq q.2, by rw [if_neg hq], by rw [f_2_1, if_neg hq]⟩
    refine g_goto (pc := 15) (tgt := 19) hX d_NS_global_15 (by decide) ?_
    exact g_iret (pc := 19) hX hE d_NS_global_19 (by decide) (by decide) ⟨g_2, _, rfl, rfl, gk_2, hgl, rfl, rfl⟩

abbrev rm_NS_lay : Room := { frames := 4, cells := 6000, slots := 36000, locals := 93 }
set_option maxHeartbeats 4000000 in
set_option maxRecDepth 100000 in
theorem c_NS_lay (l : Launch) (E : gE) (x g kp pa la s n te sp : Nat) (lac : RowT) (lak : rowOK lac) (k : Int) (hk : gin k) (b : Int) (hb : gil b) : Ct l E y_NS_lay b_NS_lay 4 (some .int) rm_NS_lay [.ref x, .int (iI k), .long (lI b)] (nsO x g kp pa la s n te sp ++ rowW E la lac) (fun v w dc ds => ∃ ρ, ∃ r : Int, v = some (.int (iI r)) ∧ w = nsO x g kp pa la s n te sp ++ rowW E la ρ ∧ rowOK ρ ∧ ((okBes k b ∧ rN lac < 3000 ∧ rL ρ = rL lac ++ [(k, b)] ∧ r = rN lac + 1 ∧ rGrow lac ρ dc ds) ∨ (¬ (okBes k b ∧ rN lac < 3000) ∧ r = -1 ∧ ρ = lac ∧ dc = 0 ∧ ds = 0))) := by
  obtain ⟨⟨la1, la2, la3, la4⟩, laf, lag, lah⟩ := id lak
  refine g_start (by decide) (Nat.le_of_ble_eq_true rfl) (fun X hX hE hin => ?_)
  refine g_iload_n (pc := 0) hX 1 d_NS_lay_0 rfl rfl ?_
  refine g_lload_n (pc := 1) hX 2 d_NS_lay_1 rfl rfl ?_
  refine g_iS (pc := 2) hX (c_NS_canBeBeside l E _ (by omega) _ (by omega)) gy_NS_canBeBeside w_153 w_152 rfl (by decide) (by decide) [] rfl rfl _ rfl (Nat.le_of_ble_eq_true rfl) d_NS_lay_2 (show _ + 0 ≤ 6000 by omega) (show _ + 0 ≤ 36000 by omega) ?_
  refine g_beq (pc := 5) (tgt := 21) hX d_NS_lay_5 (by decide) (fun c_1 => ?_) (fun c_1 => ?_)
  · refine g_iconst (pc := 21) hX d_NS_lay_21 ?_
    exact g_iret (pc := 22) hX hE d_NS_lay_22 (show _ ≤ 6000 by omega) (show _ ≤ 36000 by omega) ⟨lac, -1, rfl, rfl, lak, Or.inr ⟨fun q => by first | exact c_1 q.1 | (have := q.2; omega), rfl, rfl, rfl, rfl⟩⟩
  · refine g_aload_n (pc := 8) hX 0 d_NS_lay_8 rfl rfl ?_
    refine g_get (pc := 9) hX f_NS_26 0 rfl rfl d_NS_lay_9 ?_
    refine g_iV (pc := 12) hX (c_RW_count l E la lac lak) gy_RW_count gv_RW_count w_156 rfl (by decide) (by decide) [1, 2, 3, 4] rfl rfl rfl rfl rfl _ rfl (Nat.le_of_ble_eq_true rfl) d_NS_lay_12 (show _ + 0 ≤ 6000 by omega) (show _ + 0 ≤ 36000 by omega) ?_
    refine g_sipush (pc := 15) hX 3000 d_NS_lay_15 (by decide) ?_
    refine g_icmp_lt (pc := 18) (tgt := 23) hX d_NS_lay_18 (by decide) (by omega) (by omega) (fun c_2 => ?_) (fun c_2 => ?_)
    · refine g_aload_n (pc := 23) hX 0 d_NS_lay_23 rfl rfl ?_
      refine g_get (pc := 24) hX f_NS_26 0 rfl rfl d_NS_lay_24 ?_
      refine g_iload_n (pc := 27) hX 1 d_NS_lay_27 rfl rfl ?_
      refine g_lload_n (pc := 28) hX 2 d_NS_lay_28 rfl rfl ?_
      refine g_callV (pc := 29) hX (c_RW_add l E la lac lak _ (by omega) _ (by omega) (by omega)) gy_RW_add gv_RW_add w_160 rfl (by decide) (by decide) [1, 2, 3, 4] rfl rfl rfl rfl rfl _ rfl (Nat.le_of_ble_eq_true rfl) d_NS_lay_29 (show _ + 6000 ≤ 6000 by omega) (show _ + 36000 ≤ 36000 by omega) (fun _ _ _ _ h => by obtain ⟨_, _, h2, _⟩ := h; rw [h2]; exact Nat.le_of_ble_eq_true rfl) (fun v w dc_3 ds_3 hp => ?_)
      obtain ⟨la_3, rfl, rfl, lak_3, f_3⟩ := hp
      refine g_wsP (nsO x g kp pa la s n te sp ++ rowW E la la_3) rfl rfl ?_
      obtain ⟨d1, d2, d3, d4, d5⟩ := f_3
      obtain ⟨⟨t1, t2, t3, t4⟩, -⟩ := id lak_3
      refine g_aload_n (pc := 32) hX 0 d_NS_lay_32 rfl rfl ?_
      refine g_get (pc := 33) hX f_NS_26 0 rfl rfl d_NS_lay_33 ?_
      refine g_iV (pc := 36) hX (c_RW_count l E la la_3 lak_3) gy_RW_count gv_RW_count w_156 rfl (by decide) (by decide) [1, 2, 3, 4] rfl rfl rfl rfl rfl _ rfl (Nat.le_of_ble_eq_true rfl) d_NS_lay_36 (show _ + 0 ≤ 6000 by omega) (show _ + 0 ≤ 36000 by omega) ?_
      exact g_iret (pc := 39) hX hE d_NS_lay_39 (show _ ≤ 6000 by omega) (show _ ≤ 36000 by omega) ⟨la_3, _, rfl, rfl, lak_3, Or.inl ⟨c_1, by omega, d1, by rw [d2]; rfl, by rw [Nat.zero_add, Nat.zero_add]; exact ⟨d3, d4, d5⟩⟩⟩
    · refine g_iconst (pc := 21) hX d_NS_lay_21 ?_
      exact g_iret (pc := 22) hX hE d_NS_lay_22 (show _ ≤ 6000 by omega) (show _ ≤ 36000 by omega) ⟨lac, -1, rfl, rfl, lak, Or.inr ⟨fun q => by first | exact c_1 q.1 | (have := q.2; omega), rfl, rfl, rfl, rfl⟩⟩
