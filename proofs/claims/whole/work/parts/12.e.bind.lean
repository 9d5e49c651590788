abbrev rm_NS_bind : Room := { frames := 6, cells := 60000, slots := 360000, locals := 142 }
set_option maxHeartbeats 4000000 in
set_option maxRecDepth 100000 in
theorem c_NS_bind (l : Launch) (E : gE) (x g kp pa la s n te sp : Nat) (gc : GlT) (gk : glOK gc) (lac : RowT) (lak : rowOK lac) (sc : ScT) (sk : scOK sc) (tec : RowT) (tek : rowOK tec) (spc : RowT) (spk : rowOK spc) (hnB : nB lac) (hkB : kB lac) : Ct l E y_NS_bind b_NS_bind 3 (some .int) rm_NS_bind [.ref x] (nsO x g kp pa la s n te sp ++ glW E g gc ++ rowW E la lac ++ scW E s sc ++ rowW E te tec ++ rowW E sp spc) (fun vv ww dc ds => (¬ OneT (rN lac) (rF lac) ∧ vv = some (.int (iI (-1))) ∧ ∃ lb, ww = nsO x g kp pa la s n te sp ++ glW E g gc ++ rowW E la lb ++ scW E s sc ++ rowW E te tec ++ rowW E sp spc ∧ rowOK lb ∧ rN lb = rN lac ∧ rC lb = rC lac ∧ rF lb = rF lac ∧ rG lb = rG lac ∧ dc = 0 ∧ ds = 0) ∨ (OneT (rN lac) (rF lac) ∧ ∃ (k : Nat) (lb : RowT) (ς : ScT) (ρ : RowT), k < rN lac ∧ (∀ j, j < k → bN (rF lac) (rG lac) (uN gc) (uF gc) j ≠ none) ∧ bN (rF lac) (rG lac) (uN gc) (uF gc) k = none ∧ vv = some (.int (iI (-2 - (k : Int)))) ∧ ww = nsO x g kp pa la s n te sp ++ glW E g gc ++ rowW E la lb ++ scW E s ς ++ rowW E te tec ++ rowW E sp ρ ∧ rowOK lb ∧ rN lb = rN lac ∧ rC lb = rC lac ∧ rF lb = rF lac ∧ rG lb = rG lac ∧ scOK ς ∧ rowOK ρ ∧ dc ≤ (sC ς - sC sc) + (rC ρ - rC spc) ∧ ds ≤ 6 * ((sC ς - sC sc) + (rC ρ - rC spc)) ∧ sC sc ≤ sC ς ∧ rC spc ≤ rC ρ) ∨ (OneT (rN lac) (rF lac) ∧ ∃ (lb : RowT) (ς : ScT) (ρ0 ρ : RowT), (∀ j, j < rN lac → bN (rF lac) (rG lac) (uN gc) (uF gc) j ≠ none) ∧ vv = some (.int (iI (rN ρ))) ∧ ww = nsO x g kp pa la s n sp te ++ glW E g gc ++ rowW E la lb ++ scW E s ς ++ rowW E te tec ++ rowW E sp ρ ∧ rowOK lb ∧ rN lb = 0 ∧ rC lb = rC lac ∧ scOK ς ∧ rowOK ρ ∧ rL ρ0 = bAll (rF lac) (rG lac) (uN gc) (uF gc) (rN lac) ∧ newT ρ ρ0 ∧ dc ≤ (sC ς - sC sc) + (rC ρ - rC spc) ∧ ds ≤ 6 * ((sC ς - sC sc) + (rC ρ - rC spc)) ∧ sC sc ≤ sC ς ∧ rC spc ≤ rC ρ)) := by
  obtain ⟨g1, g2⟩ := id gk
  obtain ⟨⟨la1, la2, la3, la4⟩, laf, lag, lah⟩ := id lak
  obtain ⟨⟨sp1, sp2, sp3, sp4⟩, spf, spg, sph⟩ := id spk
  obtain ⟨⟨s1, s2, s3, s4⟩, si, sd, so⟩ := id sk
  refine g_start (by decide) (Nat.le_of_ble_eq_true rfl) (fun X hX hE hin => ?_)
  refine g_aload_n (pc := 0) hX 0 d_NS_bind_0 rfl rfl ?_
  refine g_get (pc := 1) hX f_NS_26 0 rfl rfl d_NS_bind_1 ?_
  refine g_callV (pc := 4) hX (c_RW_measure l E la lac lak) gy_RW_measure gv_RW_measure w_210 rfl (by decide) (by decide) [3, 4, 5, 6] rfl rfl rfl rfl rfl _ rfl (Nat.le_of_ble_eq_true rfl) d_NS_bind_4 (show _ + 0 ≤ 60000 by omega) (show _ + 0 ≤ 360000 by omega) (fun _ _ _ _ h => by obtain ⟨_, _, h2, _⟩ := h; rw [h2]; exact Nat.le_of_ble_eq_true rfl) (fun v w dc_1 ds_1 hp => ?_)
  obtain ⟨la_1, rfl, rfl, lak_1, f_1_1, f_1_2, f_1_3, f_1_4, f_1_5, rfl, rfl⟩ := hp
  refine g_wsP (nsO x g kp pa la s n te sp ++ glW E g gc ++ rowW E la la_1 ++ scW E s sc ++ rowW E te tec ++ rowW E sp spc) rfl rfl ?_
  refine g_bne (pc := 7) (tgt := 12) hX d_NS_bind_7 (by decide) (fun c_2 => ?_) (fun c_2 => ?_)
  · obtain ⟨σ, y1, y2, y3⟩ := f_1_5 c_2
    have hm : mea la_1 σ := ⟨by rw [f_1_1, f_1_3]; exact y1, by rw [y2, f_1_1], by rw [f_1_1]; exact c_2.1, fun j hj => y3 j (by omega)⟩
    refine g_aload_n (pc := 12) hX 0 d_NS_bind_12 rfl rfl ?_
    refine g_get (pc := 13) hX f_NS_32 0 rfl rfl d_NS_bind_13 ?_
    refine g_aload_n (pc := 16) hX 0 d_NS_bind_16 rfl rfl ?_
    refine g_get (pc := 17) hX f_NS_26 0 rfl rfl d_NS_bind_17 ?_
    refine g_callV (pc := 20) hX (c_SC_read l E s sc sk la la_1 lak_1 σ hm.1 hm.2.1 hm.2.2.1 hm.2.2.2) gy_SC_read gv_SC_read w_236 rfl (by decide) (by decide) [7, 8, 9, 10, 3, 4, 5, 6] rfl rfl rfl rfl rfl _ rfl (Nat.le_of_ble_eq_true rfl) d_NS_bind_20 (show _ + 6000 ≤ 60000 by omega) (show _ + 36000 ≤ 360000 by omega) (fun _ _ _ _ h => by obtain ⟨_, _, h2, _⟩ := h; rw [h2]; exact Nat.le_of_ble_eq_true rfl) (fun v w dc_3 ds_3 hp => ?_)
    obtain ⟨s_3, rfl, rfl, sk_3, f_3⟩ := hp
    refine g_wsP (nsO x g kp pa la s n te sp ++ glW E g gc ++ rowW E la la_1 ++ scW E s s_3 ++ rowW E te tec ++ rowW E sp spc) rfl rfl ?_
    obtain ⟨b1, b2, b3⟩ := f_3
    have hs0 : scFor s_3 la_1 := ⟨b1, b2⟩
    obtain ⟨b4, b5, b6⟩ := id b3
    obtain ⟨⟨m1, m2, m3, m4⟩, si1, sd1, so1⟩ := id sk_3
    refine g_aload_n (pc := 23) hX 0 d_NS_bind_23 rfl rfl ?_
    refine g_get (pc := 24) hX f_NS_46 0 rfl rfl d_NS_bind_24 ?_
    refine g_callV (pc := 27) hX (c_RW_clear l E sp spc spk) gy_RW_clear gv_RW_clear w_202 rfl (by decide) (by decide) [15, 16, 17, 18] rfl rfl rfl rfl rfl _ rfl (Nat.le_of_ble_eq_true rfl) d_NS_bind_27 (show _ + 0 ≤ 60000 by omega) (show _ + 0 ≤ 360000 by omega) (fun _ _ _ _ h => by obtain ⟨_, _, h2, _⟩ := h; rw [h2]; exact Nat.le_of_ble_eq_true rfl) (fun v w dc_4 ds_4 hp => ?_)
    obtain ⟨sp_4, rfl, rfl, spk_4, f_4_1, f_4_2, rfl, rfl⟩ := hp
    refine g_wsP (nsO x g kp pa la s n te sp ++ glW E g gc ++ rowW E la la_1 ++ scW E s s_3 ++ rowW E te tec ++ rowW E sp sp_4) rfl rfl ?_
    obtain ⟨⟨u1, u2, u3, u4⟩, -⟩ := id spk_4
    refine g_aload_n (pc := 30) hX 0 d_NS_bind_30 rfl rfl ?_
    refine g_get (pc := 31) hX f_NS_26 0 rfl rfl d_NS_bind_31 ?_
    refine g_iV (pc := 34) hX (c_RW_count l E la la_1 lak_1) gy_RW_count gv_RW_count w_156 rfl (by decide) (by decide) [3, 4, 5, 6] rfl rfl rfl rfl rfl _ rfl (Nat.le_of_ble_eq_true rfl) d_NS_bind_34 (show _ + 0 ≤ 60000 by omega) (show _ + 0 ≤ 360000 by omega) ?_
    refine g_istore_n (pc := 37) hX 1 d_NS_bind_37 rfl (by decide) ?_
    refine g_iconst (pc := 38) hX d_NS_bind_38 ?_
    refine g_istore_n (pc := 39) hX 2 d_NS_bind_39 rfl (by decide) ?_
    have loop : ∀ (d k : Nat) (O : Nat → Int) (ρ : RowT) (c0 s0 : Nat), rN la_1 < k + d → k ≤ rN la_1 → (∀ j, gin (O j)) → (∀ e ∈ stk (rF la_1) k, mat O e.tail) → rowOK ρ → (∀ j, j < k → bN (rF lac) (rG lac) (uN gc) (uF gc) j ≠ none) → rL ρ = bAll (rF lac) (rG lac) (uN gc) (uF gc) k → rGrow sp_4 ρ c0 s0 → gW X (nsO x g kp pa la s n te sp ++ glW E g gc ++ rowW E la la_1 ++ scW E s ((sA s_3, sN s_3, sC s_3, sI s_3, sD s_3, O) : ScT) ++ rowW E te tec ++ rowW E sp ρ) (0 + dc_3 + c0) (0 + ds_3 + s0) 40 [(0, .ref x), (1, .int (iI (rN la_1 : Int))), (2, .int (iI (k : Int)))] [] := by
      intro d
      induction d with
      | zero => intro k O ρ c0 s0 hfu hk; omega
      | succ d ih =>
        intro k O ρ c0 s0 hfu hk ho hst hρ hbn hl hg
        have hok : scOK ((sA s_3, sN s_3, sC s_3, sI s_3, sD s_3, O) : ScT) := sk_3.u ⟨m1, m2⟩ si1 sd1 ho
        have hsf : scFor ((sA s_3, sN s_3, sC s_3, sI s_3, sD s_3, O) : ScT) la_1 := hs0
        obtain ⟨g1, g2, g3⟩ := id hg
        obtain ⟨⟨p1, p2, p3, p4⟩, -⟩ := id hρ
        have hL : rN ρ = k := by have := congrArg List.length hl; rw [Lr_len, bAll_len] at this; exact this
        refine g_iload_n (pc := 40) hX 2 d_NS_bind_40 rfl rfl ?_
        refine g_iload_n (pc := 41) hX 1 d_NS_bind_41 rfl rfl ?_
        refine g_icmp_ge (pc := 42) (tgt := 72) hX d_NS_bind_42 (by decide) (by omega) (by omega) (fun c_5 => ?_) (fun c_5 => ?_)
        · refine g_aload_n (pc := 72) hX 0 d_NS_bind_72 rfl rfl ?_
          refine g_callV (pc := 73) hX (c_NS_takeSpare l E x g kp pa la s n te sp tec tek ρ hρ) gy_NS_takeSpare gv_NS_takeSpare w_296 rfl (by decide) (by decide) [0, 11, 12, 13, 14, 15, 16, 17, 18] rfl rfl rfl rfl rfl _ rfl (Nat.le_of_ble_eq_true rfl) d_NS_bind_73 (show _ + 0 ≤ 60000 by omega) (show _ + 0 ≤ 360000 by omega) (fun _ _ _ _ h => by obtain ⟨_, _, h2, _⟩ := h; rw [h2]; exact Nat.le_of_ble_eq_true rfl) (fun v w dc_6 ds_6 hp => ?_)
          obtain ⟨sp_6, rfl, rfl, spk_6, f_6_1, rfl, rfl⟩ := hp
          refine g_wsP (nsO x g kp pa la s n sp te ++ glW E g gc ++ rowW E la la_1 ++ scW E s ((sA s_3, sN s_3, sC s_3, sI s_3, sD s_3, O) : ScT) ++ rowW E te tec ++ rowW E sp sp_6) rfl rfl ?_
          have nt := f_6_1
          obtain ⟨j1, j2, j3, j4, j5⟩ := id nt
          refine g_aload_n (pc := 76) hX 0 d_NS_bind_76 rfl rfl ?_
          refine g_get (pc := 77) hX f_NS_26 0 rfl rfl d_NS_bind_77 ?_
          refine g_callV (pc := 80) hX (c_RW_clear l E la la_1 lak_1) gy_RW_clear gv_RW_clear w_202 rfl (by decide) (by decide) [3, 4, 5, 6] rfl rfl rfl rfl rfl _ rfl (Nat.le_of_ble_eq_true rfl) d_NS_bind_80 (show _ + 0 ≤ 60000 by omega) (show _ + 0 ≤ 360000 by omega) (fun _ _ _ _ h => by obtain ⟨_, _, h2, _⟩ := h; rw [h2]; exact Nat.le_of_ble_eq_true rfl) (fun v w dc_7 ds_7 hp => ?_)
          obtain ⟨la_7, rfl, rfl, lak_7, f_7_1, f_7_2, rfl, rfl⟩ := hp
          refine g_wsP (nsO x g kp pa la s n sp te ++ glW E g gc ++ rowW E la la_7 ++ scW E s ((sA s_3, sN s_3, sC s_3, sI s_3, sD s_3, O) : ScT) ++ rowW E te tec ++ rowW E sp sp_6) rfl rfl ?_
          refine g_aload_n (pc := 83) hX 0 d_NS_bind_83 rfl rfl ?_
          refine g_get (pc := 84) hX f_NS_43 0 rfl rfl d_NS_bind_84 ?_
          refine g_iV (pc := 87) hX (c_RW_count l E sp sp_6 spk_6) gy_RW_count gv_RW_count w_156 rfl (by decide) (by decide) [15, 16, 17, 18] rfl rfl rfl rfl rfl _ rfl (Nat.le_of_ble_eq_true rfl) d_NS_bind_87 (show _ + 0 ≤ 60000 by omega) (show _ + 0 ≤ 360000 by omega) ?_
          exact g_iret (pc := 90) hX hE d_NS_bind_90 (show _ ≤ 60000 by omega) (show _ ≤ 360000 by omega) (Or.inr (Or.inr ⟨c_2, la_7, ((sA s_3, sN s_3, sC s_3, sI s_3, sD s_3, O) : ScT), ρ, sp_6, fun j hj => hbn j (by omega), rfl, rfl, lak_7, f_7_1, by omega, hok, spk_6, by rw [hl, show k = rN lac by omega], nt, by show _ ≤ (sC s_3 - sC sc) + (rC sp_6 - rC spc); omega, by show _ ≤ 6 * ((sC s_3 - sC sc) + (rC sp_6 - rC spc)); omega, by show sC sc ≤ sC s_3; omega, by omega⟩))
        · refine g_aload_n (pc := 45) hX 0 d_NS_bind_45 rfl rfl ?_
          refine g_get (pc := 46) hX f_NS_32 0 rfl rfl d_NS_bind_46 ?_
          refine g_iload_n (pc := 49) hX 2 d_NS_bind_49 rfl rfl ?_
          refine g_callV (pc := 50) hX (c_SC_enter l E s ((sA s_3, sN s_3, sC s_3, sI s_3, sD s_3, O) : ScT) hok _ (by omega)) gy_SC_enter gv_SC_enter w_261 rfl (by decide) (by decide) [7, 8, 9, 10] rfl rfl rfl rfl rfl _ rfl (Nat.le_of_ble_eq_true rfl) d_NS_bind_50 (show _ + 0 ≤ 60000 by omega) (show _ + 0 ≤ 360000 by omega) (fun _ _ _ _ h => by obtain ⟨_, _, h2, _⟩ := h; rw [h2]; exact Nat.le_of_ble_eq_true rfl) (fun v w dc_8 ds_8 hp => ?_)
          obtain ⟨s_8, rfl, rfl, sk_8, f_8_1, rfl, rfl⟩ := hp
          refine g_wsP (nsO x g kp pa la s n te sp ++ glW E g gc ++ rowW E la la_1 ++ scW E s s_8 ++ rowW E te tec ++ rowW E sp ρ) rfl rfl ?_
          obtain ⟨n1, n2, n3⟩ := ent hok hsf hm (show k < rN la_1 by omega) hst
          have hok2 : scOK ((sA s_3, sN s_3, sC s_3, sI s_3, sD s_3, enO ((sA s_3, sN s_3, sC s_3, sI s_3, sD s_3, O) : ScT) (k : Int)) : ScT) := sk_3.u ⟨m1, m2⟩ si1 sd1 n3
          subst f_8_1
          refine g_ws (nsO x g kp pa la s n te sp ++ glW E g gc ++ rowW E la la_1 ++ scW E s ((sA s_3, sN s_3, sC s_3, sI s_3, sD s_3, enO ((sA s_3, sN s_3, sC s_3, sI s_3, sD s_3, O) : ScT) (k : Int)) : ScT) ++ rowW E te tec ++ rowW E sp ρ) rfl ?_
          have hsf2 : scFor ((sA s_3, sN s_3, sC s_3, sI s_3, sD s_3, enO ((sA s_3, sN s_3, sC s_3, sI s_3, sD s_3, O) : ScT) (k : Int)) : ScT) la_1 := hs0
          refine g_aload_n (pc := 53) hX 0 d_NS_bind_53 rfl rfl ?_
          refine g_iload_n (pc := 54) hX 2 d_NS_bind_54 rfl rfl ?_
          refine g_callV (pc := 55) hX (c_NS_bindNode l E x g kp pa la s n te sp gc gk la_1 lak_1 ((sA s_3, sN s_3, sC s_3, sI s_3, sD s_3, enO ((sA s_3, sN s_3, sC s_3, sI s_3, sD s_3, O) : ScT) (k : Int)) : ScT) hok2 ρ hρ σ hm hsf2 k (by omega) n1 (by omega) (fun j hj => by rw [f_1_4]; exact hnB j (by omega)) (fun j hj => by rw [f_1_3]; exact hkB j (by omega))) gy_NS_bindNode gv_NS_bindNode w_269 rfl (by decide) (by decide) [0, 1, 2, 3, 4, 5, 6, 7, 8, 9, 10, 15, 16, 17, 18] rfl rfl rfl rfl rfl _ rfl (Nat.le_of_ble_eq_true rfl) d_NS_bind_55 (show _ + 6000 ≤ 60000 by omega) (show _ + 36000 ≤ 360000 by omega) (fun _ _ _ _ h => by obtain ⟨_, _, _, h2, _⟩ := h; rw [h2]; exact Nat.le_of_ble_eq_true rfl) (fun v w dc_9 ds_9 hp => ?_)
          obtain ⟨sp_9, t_9, rfl, rfl, spk_9, f_9⟩ := hp
          refine g_wsP (nsO x g kp pa la s n te sp ++ glW E g gc ++ rowW E la la_1 ++ scW E s ((sA s_3, sN s_3, sC s_3, sI s_3, sD s_3, enO ((sA s_3, sN s_3, sC s_3, sI s_3, sD s_3, O) : ScT) (k : Int)) : ScT) ++ rowW E te tec ++ rowW E sp sp_9) rfl rfl ?_
          rw [show bN (rF la_1) (rG la_1) (uN gc) (uF gc) k = bN (rF lac) (rG lac) (uN gc) (uF gc) k by rw [f_1_3, f_1_4]] at f_9
          rcases f_9 with ⟨p, x1, rfl, x3, x4⟩ | ⟨x1, rfl, rfl, rfl, rfl⟩
          · refine g_if_ne (pc := 58) (tgt := 66) hX d_NS_bind_58 (by decide) (by decide) (fun c_10 => ?_) (fun c_10 => ?_)
            · refine g_iinc (pc := 66) hX d_NS_bind_66 (by decide) rfl ?_
              refine g_goto (pc := 69) (tgt := 40) hX d_NS_bind_69 (by decide) ?_
              refine g_lv [(0, .ref x), (1, .int (iI (rN la_1 : Int))), (2, .int (iI ((k + 1 : Nat) : Int)))] ⟨rfl, rfl, rfl, trivial⟩ ?_
              refine g_wide (k := 0 + dc_3 + (c0 + dc_9)) (n := 0 + ds_3 + (s0 + ds_9)) (by omega) (by omega) ?_
              exact ih (k + 1) _ sp_9 (c0 + dc_9) (s0 + ds_9) (by omega) (by omega) n3 n2 spk_9 (fun j hj => by
                by_cases e : j = k
                · subst e; rw [x1]; exact Option.some_ne_none _
                · exact hbn j (by omega)) (by rw [x3, hl, bAll_succ, x1]; rfl) (hg.tr x4)
            · exact absurd (by decide) c_10
          · refine g_if_ne (pc := 58) (tgt := 66) hX d_NS_bind_58 (by decide) (by decide) (fun c_11 => ?_) (fun c_11 => ?_)
            · exact absurd c_11 (by decide)
            · refine g_bipush (pc := 61) hX (-2) d_NS_bind_61 (by decide) ?_
              refine g_iload_n (pc := 63) hX 2 d_NS_bind_63 rfl rfl ?_
              refine g_isub (pc := 64) hX d_NS_bind_64 ?_
              exact g_iret (pc := 65) hX hE d_NS_bind_65 (show _ ≤ 60000 by omega) (show _ ≤ 360000 by omega) (Or.inr (Or.inl ⟨c_2, k, la_1, ((sA s_3, sN s_3, sC s_3, sI s_3, sD s_3, enO ((sA s_3, sN s_3, sC s_3, sI s_3, sD s_3, O) : ScT) (k : Int)) : ScT), sp_9, by omega, hbn, x1, rfl, rfl, lak_1, f_1_1, f_1_2, f_1_3, f_1_4, hok2, hρ, by show _ ≤ (sC s_3 - sC sc) + (rC sp_9 - rC spc); omega, by show _ ≤ 6 * ((sC s_3 - sC sc) + (rC sp_9 - rC spc)); omega, by show sC sc ≤ sC s_3; omega, by omega⟩))
          
    refine g_lv [(0, .ref x), (1, .int (iI (rN la_1 : Int))), (2, .int (iI ((0 : Nat) : Int)))] ⟨rfl, rfl, rfl, trivial⟩ ?_
    have hst0 : ∀ e ∈ stk (rF la_1) 0, mat (sO s_3) e.tail := by
      intro e he
      have h9 : e = [] := by simpa [stk] using he
      rw [h9]; exact mat_nil _
    exact loop (rN la_1 + 1) 0 (sO s_3) sp_4 0 0 (by omega) (by omega) so1 hst0 spk_4 (fun j hj => by omega) (by show Lr (rN sp_4) _ _ = []; rw [f_4_1]; rfl) (rGrow.rf _)
    
  · refine g_iconst (pc := 10) hX d_NS_bind_10 ?_
    exact g_iret (pc := 11) hX hE d_NS_bind_11 (show _ ≤ 60000 by omega) (show _ ≤ 360000 by omega) (Or.inl ⟨c_2, rfl, la_1, rfl, lak_1, f_1_1, f_1_2, f_1_3, f_1_4, rfl, rfl⟩)
