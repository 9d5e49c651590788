abbrev rm_MD_measure : Room := { frames := 1, cells := 0, slots := 0, locals := 22 }
set_option maxHeartbeats 4000000 in
set_option maxRecDepth 100000 in
theorem c_MD_measure (l : Launch) (E : gE) (m : Nat) (A : Nat → Nat) (gn ln n kn sn dn : Nat) (mt mg : Int) (LK K SZ WH : Nat → Int) (fl : Int) (F : Nat → Int) (N : Nat) (σ : Nat → Nat) (hF : (fl = 1 ∧ F = LK ∧ N = ln) ∨ (fl = 0 ∧ F = K ∧ N = n)) (hO : oneS N F σ) : Ct l E y_MD_measure b_MD_measure 5 none rm_MD_measure [.ref m, .int (iI fl)] (mdO m A gn ln n kn sn dn mt mg ++ mI E A 1 LK ++ mI E A 3 K ++ mI E A 11 SZ ++ mI E A 12 WH) (fun vv ww dc ds => ∃ S W, vv = none ∧ ww = mdO m A gn ln n kn sn dn mt mg ++ mI E A 1 LK ++ mI E A 3 K ++ mI E A 11 S ++ mI E A 12 W ∧ meaM N F σ S W ∧ dc = 0 ∧ ds = 0) := by
  obtain ⟨hz, h0, hN, hN2, hkd⟩ := id hO
  have hfl : fl = 0 ∨ fl = 1 := by
    rcases hF with h | h
    · exact Or.inr h.1
    · exact Or.inl h.1
  have hF2 : (fl = 1 ∧ F = LK) ∨ (fl = 0 ∧ F = K) := by
    rcases hF with h | h
    · exact Or.inl ⟨h.1, h.2.1⟩
    · exact Or.inr ⟨h.1, h.2.1⟩
  refine g_start (by decide) (Nat.le_of_ble_eq_true rfl) (fun X hX hE hin => ?_)
  refine g_iload_n (pc := 0) hX 1 d_MD_measure_0 rfl rfl ?_
  refine g_if_eq (pc := 1) (tgt := 11) hX d_MD_measure_1 (by decide) (by omega) (fun c_1 => ?_) (fun c_1 => ?_)
  · have eN : N = n := by
      rcases hF with h | h
      · exact absurd h.1 (by omega)
      · exact h.2.2
    refine g_aload_n (pc := 11) hX 0 d_MD_measure_11 rfl rfl ?_
    refine g_get (pc := 12) hX f_MD_53 0 rfl rfl d_MD_measure_12 ?_
    refine g_st (.int (iI (N : Int)) :: []) (by rw [eN]) ?_
    refine g_istore_n (pc := 15) hX 2 d_MD_measure_15 rfl (by decide) ?_
    refine g_iload_n (pc := 16) hX 2 d_MD_measure_16 rfl rfl ?_
    refine g_iconst (pc := 17) hX d_MD_measure_17 ?_
    refine g_isub (pc := 18) hX d_MD_measure_18 ?_
    refine g_istore_n (pc := 19) hX 3 d_MD_measure_19 rfl (by decide) ?_
    have loop : ∀ (d : Nat) (k : Nat) (S W : Nat → Int), k < d → k ≤ N → (∀ j, k ≤ j → j < N → S j = (σ j : Int)) → parK N F σ W k → gW X (mdO m A gn ln n kn sn dn mt mg ++ mI E A 1 LK ++ mI E A 3 K ++ mI E A 11 S ++ mI E A 12 W) 0 0 20 [(0, .ref m), (1, .int (iI fl)), (2, .int (iI (N : Int))), (3, .int (iI ((k : Int) - 1)))] [] := by
      intro d
      induction d with
      | zero => intro k S W hfu hk hS hW; omega
      | succ d ih =>
        intro k S W hfu hk hS hW
        refine g_iload_n (pc := 20) hX 3 d_MD_measure_20 rfl rfl ?_
        refine g_if_lt (pc := 21) (tgt := 104) hX d_MD_measure_21 (by decide) (by omega) (fun c_2 => ?_) (fun c_2 => ?_)
        · refine g_iload_n (pc := 104) hX 2 d_MD_measure_104 rfl rfl ?_
          refine g_if_le (pc := 105) (tgt := 115) hX d_MD_measure_105 (by decide) (by omega) (fun c_3 => ?_) (fun c_3 => ?_)
          · exfalso; omega
          · refine g_aload_n (pc := 108) hX 0 d_MD_measure_108 rfl rfl ?_
            refine g_get (pc := 109) hX f_MD_47 0 rfl rfl d_MD_measure_109 ?_
            refine g_iconst (pc := 112) hX d_MD_measure_112 ?_
            refine g_iconst (pc := 113) hX d_MD_measure_113 ?_
            refine g_iasN (pc := 114) hX 4 (k := 0) (x := (-1)) rfl (by omega) d_MD_measure_114 ?_
            refine g_ws (mdO m A gn ln n kn sn dn mt mg ++ mI E A 1 LK ++ mI E A 3 K ++ mI E A 11 S ++ mI E A 12 (uZ W 0 (-1))) rfl ?_
            exact g_vret (pc := 115) hX hE d_MD_measure_115 (by decide) (by decide) ⟨_, _, rfl, rfl, ⟨fun j hj => hS j (by omega) hj, parK_0 (by have e0 : k = 0 := (by omega); rw [e0] at hW; exact hW)⟩, rfl, rfl⟩
        · obtain ⟨i, rfl⟩ : ∃ i, k = i + 1 := ⟨k - 1, by omega⟩
          rw [show (((i + 1 : Nat) : Int) - 1) = (i : Int) by omega]
          obtain ⟨s1, s2, s3, s4⟩ := hz i (Nat.zero_le _) (by omega)
          have hki := hkd i (by omega)
          refine g_aload_n (pc := 24) hX 0 d_MD_measure_24 rfl rfl ?_
          refine g_get (pc := 25) hX f_MD_44 0 rfl rfl d_MD_measure_25 ?_
          refine g_iload_n (pc := 28) hX 3 d_MD_measure_28 rfl rfl ?_
          refine g_iconst (pc := 29) hX d_MD_measure_29 ?_
          refine g_iasN (pc := 30) hX 3 (k := i) (x := 1) rfl (by omega) d_MD_measure_30 ?_
          refine g_ws (mdO m A gn ln n kn sn dn mt mg ++ mI E A 1 LK ++ mI E A 3 K ++ mI E A 11 (uZ S i 1) ++ mI E A 12 W) rfl ?_
          refine g_aload_n (pc := 31) hX 0 d_MD_measure_31 rfl rfl ?_
          refine g_iload_n (pc := 32) hX 1 d_MD_measure_32 rfl rfl ?_
          refine g_iload_n (pc := 33) hX 3 d_MD_measure_33 rfl rfl ?_
          refine g_iV (pc := 34) hX (c_MD_kindOf l E m A gn ln n kn sn dn mt mg LK K _ _ F hF2 (by omega)) gy_MD_kindOf gv_MD_kindOf w_569 rfl (by decide) (by decide) [0, 1, 2] rfl (by decide +kernel) rfl rfl rfl _ rfl (Nat.le_of_ble_eq_true rfl) d_MD_measure_34 (by decide) (by decide) ?_
          refine g_iS (pc := 37) hX (c_MD_hasParts l E _ (by omega)) gy_MD_hasParts w_563 w_562 rfl (by decide) (by decide) [] rfl (by decide +kernel) _ rfl (Nat.le_of_ble_eq_true rfl) d_MD_measure_37 (by decide) (by decide) ?_
          refine g_beq (pc := 40) (tgt := 98) hX d_MD_measure_40 (by decide) (fun c_4 => ?_) (fun c_4 => ?_)
          · refine g_iinc (pc := 98) hX d_MD_measure_98 (by decide) rfl ?_
            refine g_goto (pc := 101) (tgt := 20) hX d_MD_measure_101 (by decide) ?_
            refine g_lv [(0, .ref m), (1, .int (iI fl)), (2, .int (iI (N : Int))), (3, .int (iI ((i : Int) - 1)))] ⟨rfl, rfl, rfl, rfl, trivial⟩ ?_
            exact ih i (uZ S i 1) W (by omega) (by omega) (fun j h1 h2 => by
              by_cases e : j = i
              · subst e; rw [uZ_s, s4 (by omega)]; rfl
              · rw [uZ_n e]; exact hS j (by omega) h2) (parK_leaf hW (by omega))
          · have hp : pP (F i) := by omega
            obtain ⟨c1, c2, c3⟩ := s3 hp
            obtain ⟨u1, u2, -, -⟩ := hz (i + 1) (Nat.zero_le _) c1
            obtain ⟨v1, v2, -, -⟩ := hz (i + 1 + σ (i + 1)) (Nat.zero_le _) c2
            have e1 : uZ S i 1 (i + 1) = (σ (i + 1) : Int) := by rw [uZ_n (by omega)]; exact hS (i + 1) (by omega) (by omega)
            have e2 : uZ S i 1 (i + 1 + σ (i + 1)) = (σ (i + 1 + σ (i + 1)) : Int) := by rw [uZ_n (by omega)]; exact hS _ (by omega) (by omega)
            refine g_iload_n (pc := 43) hX 3 d_MD_measure_43 rfl rfl ?_
            refine g_iconst (pc := 44) hX d_MD_measure_44 ?_
            refine g_iadd (pc := 45) hX d_MD_measure_45 ?_
            refine g_aload_n (pc := 46) hX 0 d_MD_measure_46 rfl rfl ?_
            refine g_get (pc := 47) hX f_MD_44 0 rfl rfl d_MD_measure_47 ?_
            refine g_iload_n (pc := 50) hX 3 d_MD_measure_50 rfl rfl ?_
            refine g_iconst (pc := 51) hX d_MD_measure_51 ?_
            refine g_iadd (pc := 52) hX d_MD_measure_52 ?_
            refine g_iadN (pc := 53) hX 3 (k := (i + 1)) rfl (by omega) d_MD_measure_53 ?_
            rw [e1]
            refine g_iadd (pc := 54) hX d_MD_measure_54 ?_
            refine g_istore (pc := 55) hX d_MD_measure_55 (by decide) ?_
            refine g_aload_n (pc := 57) hX 0 d_MD_measure_57 rfl rfl ?_
            refine g_get (pc := 58) hX f_MD_44 0 rfl rfl d_MD_measure_58 ?_
            refine g_iload_n (pc := 61) hX 3 d_MD_measure_61 rfl rfl ?_
            refine g_iconst (pc := 62) hX d_MD_measure_62 ?_
            refine g_aload_n (pc := 63) hX 0 d_MD_measure_63 rfl rfl ?_
            refine g_get (pc := 64) hX f_MD_44 0 rfl rfl d_MD_measure_64 ?_
            refine g_iload_n (pc := 67) hX 3 d_MD_measure_67 rfl rfl ?_
            refine g_iconst (pc := 68) hX d_MD_measure_68 ?_
            refine g_iadd (pc := 69) hX d_MD_measure_69 ?_
            refine g_iadN (pc := 70) hX 3 (k := (i + 1)) rfl (by omega) d_MD_measure_70 ?_
            rw [e1]
            refine g_iadd (pc := 71) hX d_MD_measure_71 ?_
            refine g_aload_n (pc := 72) hX 0 d_MD_measure_72 rfl rfl ?_
            refine g_get (pc := 73) hX f_MD_44 0 rfl rfl d_MD_measure_73 ?_
            refine g_iload (pc := 76) hX d_MD_measure_76 rfl ?_
            refine g_iadN (pc := 78) hX 3 (k := i + 1 + σ (i + 1)) rfl (by omega) d_MD_measure_78 ?_
            rw [e2]
            refine g_iadd (pc := 79) hX d_MD_measure_79 ?_
            refine g_iasN (pc := 80) hX 3 (k := i) (x := ((((1 + σ (i + 1)) + σ (i + 1 + σ (i + 1))) : Nat) : Int)) rfl (by omega) d_MD_measure_80 ?_
            refine g_ws (mdO m A gn ln n kn sn dn mt mg ++ mI E A 1 LK ++ mI E A 3 K ++ mI E A 11 (uZ (uZ S i 1) i ((((1 + σ (i + 1)) + σ (i + 1 + σ (i + 1))) : Nat) : Int)) ++ mI E A 12 W) rfl ?_
            refine g_aload_n (pc := 81) hX 0 d_MD_measure_81 rfl rfl ?_
            refine g_get (pc := 82) hX f_MD_47 0 rfl rfl d_MD_measure_82 ?_
            refine g_iload_n (pc := 85) hX 3 d_MD_measure_85 rfl rfl ?_
            refine g_iconst (pc := 86) hX d_MD_measure_86 ?_
            refine g_iadd (pc := 87) hX d_MD_measure_87 ?_
            refine g_iload_n (pc := 88) hX 3 d_MD_measure_88 rfl rfl ?_
            refine g_iasN (pc := 89) hX 4 (k := (i + 1)) (x := ((i : Nat) : Int)) rfl (by omega) d_MD_measure_89 ?_
            refine g_ws (mdO m A gn ln n kn sn dn mt mg ++ mI E A 1 LK ++ mI E A 3 K ++ mI E A 11 (uZ (uZ S i 1) i ((((1 + σ (i + 1)) + σ (i + 1 + σ (i + 1))) : Nat) : Int)) ++ mI E A 12 (uZ W (i + 1) ((i : Nat) : Int))) rfl ?_
            refine g_aload_n (pc := 90) hX 0 d_MD_measure_90 rfl rfl ?_
            refine g_get (pc := 91) hX f_MD_47 0 rfl rfl d_MD_measure_91 ?_
            refine g_iload (pc := 94) hX d_MD_measure_94 rfl ?_
            refine g_iload_n (pc := 96) hX 3 d_MD_measure_96 rfl rfl ?_
            refine g_iasN (pc := 97) hX 4 (k := ((i + 1) + σ (i + 1))) (x := ((i : Nat) : Int)) rfl (by omega) d_MD_measure_97 ?_
            refine g_ws (mdO m A gn ln n kn sn dn mt mg ++ mI E A 1 LK ++ mI E A 3 K ++ mI E A 11 (uZ (uZ S i 1) i ((((1 + σ (i + 1)) + σ (i + 1 + σ (i + 1))) : Nat) : Int)) ++ mI E A 12 (uZ (uZ W (i + 1) ((i : Nat) : Int)) ((i + 1) + σ (i + 1)) ((i : Nat) : Int))) rfl ?_
            refine g_iinc (pc := 98) hX d_MD_measure_98 (by decide) rfl ?_
            refine g_goto (pc := 101) (tgt := 20) hX d_MD_measure_101 (by decide) ?_
            refine g_lv [(0, .ref m), (1, .int (iI fl)), (2, .int (iI (N : Int))), (3, .int (iI ((i : Int) - 1)))] ⟨rfl, rfl, rfl, rfl, trivial⟩ ?_
            exact ih i (uZ (uZ S i 1) i ((((1 + σ (i + 1)) + σ (i + 1 + σ (i + 1))) : Nat) : Int)) (uZ (uZ W (i + 1) ((i : Nat) : Int)) ((i + 1) + σ (i + 1)) ((i : Nat) : Int)) (by omega) (by omega) (fun j h1 h2 => by
              by_cases e : j = i
              · subst e; rw [uZ_s, c3]
              · rw [uZ_n e, uZ_n e]; exact hS j (by omega) h2) (parK_part hz (by omega) hW hp)
    refine g_lv [(0, .ref m), (1, .int (iI fl)), (2, .int (iI (N : Int))), (3, .int (iI ((N : Int) - 1)))] ⟨rfl, rfl, rfl, rfl, trivial⟩ ?_
    exact loop (N + 1) N SZ WH (by omega) (by omega) (fun j h1 h2 => by omega) (fun p h1 h2 => by omega)
    
  · have eN : N = ln := by
      rcases hF with h | h
      · exact h.2.2
      · exact absurd h.1 (by omega)
    refine g_aload_n (pc := 4) hX 0 d_MD_measure_4 rfl rfl ?_
    refine g_get (pc := 5) hX f_MD_83 0 rfl rfl d_MD_measure_5 ?_
    refine g_st (.int (iI (N : Int)) :: []) (by rw [eN]) ?_
    refine g_goto (pc := 8) (tgt := 15) hX d_MD_measure_8 (by decide) ?_
    refine g_istore_n (pc := 15) hX 2 d_MD_measure_15 rfl (by decide) ?_
    refine g_iload_n (pc := 16) hX 2 d_MD_measure_16 rfl rfl ?_
    refine g_iconst (pc := 17) hX d_MD_measure_17 ?_
    refine g_isub (pc := 18) hX d_MD_measure_18 ?_
    refine g_istore_n (pc := 19) hX 3 d_MD_measure_19 rfl (by decide) ?_
    have loop : ∀ (d : Nat) (k : Nat) (S W : Nat → Int), k < d → k ≤ N → (∀ j, k ≤ j → j < N → S j = (σ j : Int)) → parK N F σ W k → gW X (mdO m A gn ln n kn sn dn mt mg ++ mI E A 1 LK ++ mI E A 3 K ++ mI E A 11 S ++ mI E A 12 W) 0 0 20 [(0, .ref m), (1, .int (iI fl)), (2, .int (iI (N : Int))), (3, .int (iI ((k : Int) - 1)))] [] := by
      intro d
      induction d with
      | zero => intro k S W hfu hk hS hW; omega
      | succ d ih =>
        intro k S W hfu hk hS hW
        refine g_iload_n (pc := 20) hX 3 d_MD_measure_20 rfl rfl ?_
        refine g_if_lt (pc := 21) (tgt := 104) hX d_MD_measure_21 (by decide) (by omega) (fun c_5 => ?_) (fun c_5 => ?_)
        · refine g_iload_n (pc := 104) hX 2 d_MD_measure_104 rfl rfl ?_
          refine g_if_le (pc := 105) (tgt := 115) hX d_MD_measure_105 (by decide) (by omega) (fun c_6 => ?_) (fun c_6 => ?_)
          · exfalso; omega
          · refine g_aload_n (pc := 108) hX 0 d_MD_measure_108 rfl rfl ?_
            refine g_get (pc := 109) hX f_MD_47 0 rfl rfl d_MD_measure_109 ?_
            refine g_iconst (pc := 112) hX d_MD_measure_112 ?_
            refine g_iconst (pc := 113) hX d_MD_measure_113 ?_
            refine g_iasN (pc := 114) hX 4 (k := 0) (x := (-1)) rfl (by omega) d_MD_measure_114 ?_
            refine g_ws (mdO m A gn ln n kn sn dn mt mg ++ mI E A 1 LK ++ mI E A 3 K ++ mI E A 11 S ++ mI E A 12 (uZ W 0 (-1))) rfl ?_
            exact g_vret (pc := 115) hX hE d_MD_measure_115 (by decide) (by decide) ⟨_, _, rfl, rfl, ⟨fun j hj => hS j (by omega) hj, parK_0 (by have e0 : k = 0 := (by omega); rw [e0] at hW; exact hW)⟩, rfl, rfl⟩
        · obtain ⟨i, rfl⟩ : ∃ i, k = i + 1 := ⟨k - 1, by omega⟩
          rw [show (((i + 1 : Nat) : Int) - 1) = (i : Int) by omega]
          obtain ⟨s1, s2, s3, s4⟩ := hz i (Nat.zero_le _) (by omega)
          have hki := hkd i (by omega)
          refine g_aload_n (pc := 24) hX 0 d_MD_measure_24 rfl rfl ?_
          refine g_get (pc := 25) hX f_MD_44 0 rfl rfl d_MD_measure_25 ?_
          refine g_iload_n (pc := 28) hX 3 d_MD_measure_28 rfl rfl ?_
          refine g_iconst (pc := 29) hX d_MD_measure_29 ?_
          refine g_iasN (pc := 30) hX 3 (k := i) (x := 1) rfl (by omega) d_MD_measure_30 ?_
          refine g_ws (mdO m A gn ln n kn sn dn mt mg ++ mI E A 1 LK ++ mI E A 3 K ++ mI E A 11 (uZ S i 1) ++ mI E A 12 W) rfl ?_
          refine g_aload_n (pc := 31) hX 0 d_MD_measure_31 rfl rfl ?_
          refine g_iload_n (pc := 32) hX 1 d_MD_measure_32 rfl rfl ?_
          refine g_iload_n (pc := 33) hX 3 d_MD_measure_33 rfl rfl ?_
          refine g_iV (pc := 34) hX (c_MD_kindOf l E m A gn ln n kn sn dn mt mg LK K _ _ F hF2 (by omega)) gy_MD_kindOf gv_MD_kindOf w_569 rfl (by decide) (by decide) [0, 1, 2] rfl (by decide +kernel) rfl rfl rfl _ rfl (Nat.le_of_ble_eq_true rfl) d_MD_measure_34 (by decide) (by decide) ?_
          refine g_iS (pc := 37) hX (c_MD_hasParts l E _ (by omega)) gy_MD_hasParts w_563 w_562 rfl (by decide) (by decide) [] rfl (by decide +kernel) _ rfl (Nat.le_of_ble_eq_true rfl) d_MD_measure_37 (by decide) (by decide) ?_
          refine g_beq (pc := 40) (tgt := 98) hX d_MD_measure_40 (by decide) (fun c_7 => ?_) (fun c_7 => ?_)
          · refine g_iinc (pc := 98) hX d_MD_measure_98 (by decide) rfl ?_
            refine g_goto (pc := 101) (tgt := 20) hX d_MD_measure_101 (by decide) ?_
            refine g_lv [(0, .ref m), (1, .int (iI fl)), (2, .int (iI (N : Int))), (3, .int (iI ((i : Int) - 1)))] ⟨rfl, rfl, rfl, rfl, trivial⟩ ?_
            exact ih i (uZ S i 1) W (by omega) (by omega) (fun j h1 h2 => by
              by_cases e : j = i
              · subst e; rw [uZ_s, s4 (by omega)]; rfl
              · rw [uZ_n e]; exact hS j (by omega) h2) (parK_leaf hW (by omega))
          · have hp : pP (F i) := by omega
            obtain ⟨c1, c2, c3⟩ := s3 hp
            obtain ⟨u1, u2, -, -⟩ := hz (i + 1) (Nat.zero_le _) c1
            obtain ⟨v1, v2, -, -⟩ := hz (i + 1 + σ (i + 1)) (Nat.zero_le _) c2
            have e1 : uZ S i 1 (i + 1) = (σ (i + 1) : Int) := by rw [uZ_n (by omega)]; exact hS (i + 1) (by omega) (by omega)
            have e2 : uZ S i 1 (i + 1 + σ (i + 1)) = (σ (i + 1 + σ (i + 1)) : Int) := by rw [uZ_n (by omega)]; exact hS _ (by omega) (by omega)
            refine g_iload_n (pc := 43) hX 3 d_MD_measure_43 rfl rfl ?_
            refine g_iconst (pc := 44) hX d_MD_measure_44 ?_
            refine g_iadd (pc := 45) hX d_MD_measure_45 ?_
            refine g_aload_n (pc := 46) hX 0 d_MD_measure_46 rfl rfl ?_
            refine g_get (pc := 47) hX f_MD_44 0 rfl rfl d_MD_measure_47 ?_
            refine g_iload_n (pc := 50) hX 3 d_MD_measure_50 rfl rfl ?_
            refine g_iconst (pc := 51) hX d_MD_measure_51 ?_
            refine g_iadd (pc := 52) hX d_MD_measure_52 ?_
            refine g_iadN (pc := 53) hX 3 (k := (i + 1)) rfl (by omega) d_MD_measure_53 ?_
            rw [e1]
            refine g_iadd (pc := 54) hX d_MD_measure_54 ?_
            refine g_istore (pc := 55) hX d_MD_measure_55 (by decide) ?_
            refine g_aload_n (pc := 57) hX 0 d_MD_measure_57 rfl rfl ?_
            refine g_get (pc := 58) hX f_MD_44 0 rfl rfl d_MD_measure_58 ?_
            refine g_iload_n (pc := 61) hX 3 d_MD_measure_61 rfl rfl ?_
            refine g_iconst (pc := 62) hX d_MD_measure_62 ?_
            refine g_aload_n (pc := 63) hX 0 d_MD_measure_63 rfl rfl ?_
            refine g_get (pc := 64) hX f_MD_44 0 rfl rfl d_MD_measure_64 ?_
            refine g_iload_n (pc := 67) hX 3 d_MD_measure_67 rfl rfl ?_
            refine g_iconst (pc := 68) hX d_MD_measure_68 ?_
            refine g_iadd (pc := 69) hX d_MD_measure_69 ?_
            refine g_iadN (pc := 70) hX 3 (k := (i + 1)) rfl (by omega) d_MD_measure_70 ?_
            rw [e1]
            refine g_iadd (pc := 71) hX d_MD_measure_71 ?_
            refine g_aload_n (pc := 72) hX 0 d_MD_measure_72 rfl rfl ?_
            refine g_get (pc := 73) hX f_MD_44 0 rfl rfl d_MD_measure_73 ?_
            refine g_iload (pc := 76) hX d_MD_measure_76 rfl ?_
            refine g_iadN (pc := 78) hX 3 (k := i + 1 + σ (i + 1)) rfl (by omega) d_MD_measure_78 ?_
            rw [e2]
            refine g_iadd (pc := 79) hX d_MD_measure_79 ?_
            refine g_iasN (pc := 80) hX 3 (k := i) (x := ((((1 + σ (i + 1)) + σ (i + 1 + σ (i + 1))) : Nat) : Int)) rfl (by omega) d_MD_measure_80 ?_
            refine g_ws (mdO m A gn ln n kn sn dn mt mg ++ mI E A 1 LK ++ mI E A 3 K ++ mI E A 11 (uZ (uZ S i 1) i ((((1 + σ (i + 1)) + σ (i + 1 + σ (i + 1))) : Nat) : Int)) ++ mI E A 12 W) rfl ?_
            refine g_aload_n (pc := 81) hX 0 d_MD_measure_81 rfl rfl ?_
            refine g_get (pc := 82) hX f_MD_47 0 rfl rfl d_MD_measure_82 ?_
            refine g_iload_n (pc := 85) hX 3 d_MD_measure_85 rfl rfl ?_
            refine g_iconst (pc := 86) hX d_MD_measure_86 ?_
            refine g_iadd (pc := 87) hX d_MD_measure_87 ?_
            refine g_iload_n (pc := 88) hX 3 d_MD_measure_88 rfl rfl ?_
            refine g_iasN (pc := 89) hX 4 (k := (i + 1)) (x := ((i : Nat) : Int)) rfl (by omega) d_MD_measure_89 ?_
            refine g_ws (mdO m A gn ln n kn sn dn mt mg ++ mI E A 1 LK ++ mI E A 3 K ++ mI E A 11 (uZ (uZ S i 1) i ((((1 + σ (i + 1)) + σ (i + 1 + σ (i + 1))) : Nat) : Int)) ++ mI E A 12 (uZ W (i + 1) ((i : Nat) : Int))) rfl ?_
            refine g_aload_n (pc := 90) hX 0 d_MD_measure_90 rfl rfl ?_
            refine g_get (pc := 91) hX f_MD_47 0 rfl rfl d_MD_measure_91 ?_
            refine g_iload (pc := 94) hX d_MD_measure_94 rfl ?_
            refine g_iload_n (pc := 96) hX 3 d_MD_measure_96 rfl rfl ?_
            refine g_iasN (pc := 97) hX 4 (k := ((i + 1) + σ (i + 1))) (x := ((i : Nat) : Int)) rfl (by omega) d_MD_measure_97 ?_
            refine g_ws (mdO m A gn ln n kn sn dn mt mg ++ mI E A 1 LK ++ mI E A 3 K ++ mI E A 11 (uZ (uZ S i 1) i ((((1 + σ (i + 1)) + σ (i + 1 + σ (i + 1))) : Nat) : Int)) ++ mI E A 12 (uZ (uZ W (i + 1) ((i : Nat) : Int)) ((i + 1) + σ (i + 1)) ((i : Nat) : Int))) rfl ?_
            refine g_iinc (pc := 98) hX d_MD_measure_98 (by decide) rfl ?_
            refine g_goto (pc := 101) (tgt := 20) hX d_MD_measure_101 (by decide) ?_
            refine g_lv [(0, .ref m), (1, .int (iI fl)), (2, .int (iI (N : Int))), (3, .int (iI ((i : Int) - 1)))] ⟨rfl, rfl, rfl, rfl, trivial⟩ ?_
            exact ih i (uZ (uZ S i 1) i ((((1 + σ (i + 1)) + σ (i + 1 + σ (i + 1))) : Nat) : Int)) (uZ (uZ W (i + 1) ((i : Nat) : Int)) ((i + 1) + σ (i + 1)) ((i : Nat) : Int)) (by omega) (by omega) (fun j h1 h2 => by
              by_cases e : j = i
              · subst e; rw [uZ_s, c3]
              · rw [uZ_n e, uZ_n e]; exact hS j (by omega) h2) (parK_part hz (by omega) hW hp)
    refine g_lv [(0, .ref m), (1, .int (iI fl)), (2, .int (iI (N : Int))), (3, .int (iI ((N : Int) - 1)))] ⟨rfl, rfl, rfl, rfl, trivial⟩ ?_
    exact loop (N + 1) N SZ WH (by omega) (by omega) (fun j h1 h2 => by omega) (fun p h1 h2 => by omega)
    

abbrev rm_MD_cut : Room := { frames := 1, cells := 0, slots := 0, locals := 24 }
set_option maxHeartbeats 4000000 in
set_option maxRecDepth 100000 in
theorem c_MD_cut (l : Launch) (E : gE) (z : Int) (hz : gil z) (h0 : 0 ≤ z) : CtL l E y_MD_cut b_MD_cut 2 (some .long) rm_MD_cut [.long (lI z)] ([]) (f4 z) := by
  refine g_start (by decide) (Nat.le_of_ble_eq_true rfl) (fun X hX hE hin => ?_)
  refine g_lload_n (pc := 0) hX 0 d_MD_cut_0 rfl rfl ?_
  refine g_iS (pc := 1) hX (c_MD_length l E _ (by omega)) gy_MD_length w_534 w_533 rfl (by decide) (by decide) [] rfl (by decide +kernel) _ rfl (Nat.le_of_ble_eq_true rfl) d_MD_cut_1 (by decide) (by decide) ?_
  have hlc := lenF_cases (u := z % 18446744073709551616) (by omega) (by omega)
  have hzm : z % 18446744073709551616 = z := by omega
  obtain ⟨N, hN⟩ : ∃ N : Nat, lenF 8 (z % 18446744073709551616) = N := ⟨(lenF 8 (z % 18446744073709551616)).toNat, by omega⟩
  rw [hN] at hlc ⊢
  refine g_iconst (pc := 4) hX d_MD_cut_4 ?_
  refine g_icmp_le (pc := 5) (tgt := 22) hX d_MD_cut_5 (by decide) (by omega) (by omega) (fun c_1 => ?_) (fun c_1 => ?_)
  · refine g_lload_n (pc := 22) hX 0 d_MD_cut_22 rfl rfl ?_
    exact g_lret (pc := 23) hX hE d_MD_cut_23 (by decide) (by decide) ⟨by unfold f4; rw [if_pos (by omega)], rfl, rfl, rfl⟩
  · refine g_lload_n (pc := 8) hX 0 d_MD_cut_8 rfl rfl ?_
    refine g_bipush (pc := 9) hX 8 d_MD_cut_9 (by decide) ?_
    refine g_lload_n (pc := 11) hX 0 d_MD_cut_11 rfl rfl ?_
    refine g_iS (pc := 12) hX (c_MD_length l E _ (by omega)) gy_MD_length w_534 w_533 rfl (by decide) (by decide) [] rfl (by decide +kernel) _ rfl (Nat.le_of_ble_eq_true rfl) d_MD_cut_12 (by decide) (by decide) ?_
    rw [hN]
    refine g_iconst (pc := 15) hX d_MD_cut_15 ?_
    refine g_isub (pc := 16) hX d_MD_cut_16 ?_
    refine g_imul (pc := 17) hX d_MD_cut_17 ?_
    refine g_lushr (pc := 18) hX (f4 z) d_MD_cut_18 (f4_sh h0 hz hN (by omega)) ?_
    refine g_goto (pc := 19) (tgt := 23) hX d_MD_cut_19 (by decide) ?_
    exact g_lret (pc := 23) hX hE d_MD_cut_23 (by decide) (by decide) ⟨rfl, rfl, rfl, rfl⟩

abbrev rm_MD_numbered : Room := { frames := 0, cells := 0, slots := 0, locals := 0 }
set_option maxHeartbeats 4000000 in
set_option maxRecDepth 100000 in
theorem c_MD_numbered (l : Launch) (E : gE) (z : Int) (hz : gil z) (a : Int) (ha : gin a) (h0 : 0 ≤ z ∧ z < 4294967296 ∧ 0 ≤ a ∧ a ≤ 9999) : CtL l E y_MD_numbered b_MD_numbered 6 (some .long) rm_MD_numbered [.long (lI z), .int (iI a)] ([]) (nmb z a) := by
  refine g_start (by decide) (Nat.le_of_ble_eq_true rfl) (fun X hX hE hin => ?_)
  refine g_lload_n (pc := 0) hX 0 d_MD_numbered_0 rfl rfl ?_
  refine g_lstore_n (pc := 1) hX 3 d_MD_numbered_1 rfl (by decide) ?_
  refine g_sipush (pc := 2) hX 1000 d_MD_numbered_2 (by decide) ?_
  refine g_istore (pc := 5) hX d_MD_numbered_5 (by decide) ?_
  refine g_iload (pc := 7) hX d_MD_numbered_7 rfl ?_
  refine g_if_le (pc := 9) (tgt := 49) hX d_MD_numbered_9 (by decide) (by decide) (fun c_1 => ?_) (fun c_1 => ?_)
  · exact absurd c_1 (by decide)
  · refine g_iload_n (pc := 12) hX 2 d_MD_numbered_12 rfl rfl ?_
    refine g_iload (pc := 13) hX d_MD_numbered_13 rfl ?_
    refine g_icmp_lt (pc := 15) (tgt := 37) hX d_MD_numbered_15 (by decide) (by omega) (by omega) (fun c_2 => ?_) (fun c_2 => ?_)
    · refine g_lload_n (pc := 37) hX 3 d_MD_numbered_37 rfl rfl ?_
      refine g_lstore_n (pc := 38) hX 3 d_MD_numbered_38 rfl (by decide) ?_
      refine g_iload (pc := 39) hX d_MD_numbered_39 rfl ?_
      refine g_bipush (pc := 41) hX 10 d_MD_numbered_41 (by decide) ?_
      refine g_idiv (pc := 43) hX (100) d_MD_numbered_43 (by decide) (by decide) ?_
      refine g_istore (pc := 44) hX d_MD_numbered_44 (by decide) ?_
      refine g_goto (pc := 46) (tgt := 7) hX d_MD_numbered_46 (by decide) ?_
      refine g_iload (pc := 7) hX d_MD_numbered_7 rfl ?_
      refine g_if_le (pc := 9) (tgt := 49) hX d_MD_numbered_9 (by decide) (by decide) (fun c_3 => ?_) (fun c_3 => ?_)
      · exact absurd c_3 (by decide)
      · refine g_iload_n (pc := 12) hX 2 d_MD_numbered_12 rfl rfl ?_
        refine g_iload (pc := 13) hX d_MD_numbered_13 rfl ?_
        refine g_icmp_lt (pc := 15) (tgt := 37) hX d_MD_numbered_15 (by decide) (by omega) (by omega) (fun c_4 => ?_) (fun c_4 => ?_)
        · refine g_lload_n (pc := 37) hX 3 d_MD_numbered_37 rfl rfl ?_
          refine g_lstore_n (pc := 38) hX 3 d_MD_numbered_38 rfl (by decide) ?_
          refine g_iload (pc := 39) hX d_MD_numbered_39 rfl ?_
          refine g_bipush (pc := 41) hX 10 d_MD_numbered_41 (by decide) ?_
          refine g_idiv (pc := 43) hX (10) d_MD_numbered_43 (by decide) (by decide) ?_
          refine g_istore (pc := 44) hX d_MD_numbered_44 (by decide) ?_
          refine g_goto (pc := 46) (tgt := 7) hX d_MD_numbered_46 (by decide) ?_
          refine g_iload (pc := 7) hX d_MD_numbered_7 rfl ?_
          refine g_if_le (pc := 9) (tgt := 49) hX d_MD_numbered_9 (by decide) (by decide) (fun c_5 => ?_) (fun c_5 => ?_)
          · exact absurd c_5 (by decide)
          · refine g_iload_n (pc := 12) hX 2 d_MD_numbered_12 rfl rfl ?_
            refine g_iload (pc := 13) hX d_MD_numbered_13 rfl ?_
            refine g_icmp_lt (pc := 15) (tgt := 37) hX d_MD_numbered_15 (by decide) (by omega) (by omega) (fun c_6 => ?_) (fun c_6 => ?_)
            · refine g_lload_n (pc := 37) hX 3 d_MD_numbered_37 rfl rfl ?_
              refine g_lstore_n (pc := 38) hX 3 d_MD_numbered_38 rfl (by decide) ?_
              refine g_iload (pc := 39) hX d_MD_numbered_39 rfl ?_
              refine g_bipush (pc := 41) hX 10 d_MD_numbered_41 (by decide) ?_
              refine g_idiv (pc := 43) hX (1) d_MD_numbered_43 (by decide) (by decide) ?_
              refine g_istore (pc := 44) hX d_MD_numbered_44 (by decide) ?_
              refine g_goto (pc := 46) (tgt := 7) hX d_MD_numbered_46 (by decide) ?_
              refine g_iload (pc := 7) hX d_MD_numbered_7 rfl ?_
              refine g_if_le (pc := 9) (tgt := 49) hX d_MD_numbered_9 (by decide) (by decide) (fun c_7 => ?_) (fun c_7 => ?_)
              · exact absurd c_7 (by decide)
              · refine g_iload_n (pc := 12) hX 2 d_MD_numbered_12 rfl rfl ?_
                refine g_iload (pc := 13) hX d_MD_numbered_13 rfl ?_
                refine g_icmp_lt (pc := 15) (tgt := 37) hX d_MD_numbered_15 (by decide) (by omega) (by omega) (fun c_8 => ?_) (fun c_8 => ?_)
                · refine g_lload_n (pc := 37) hX 3 d_MD_numbered_37 rfl rfl ?_
                  refine g_lstore_n (pc := 38) hX 3 d_MD_numbered_38 rfl (by decide) ?_
                  refine g_iload (pc := 39) hX d_MD_numbered_39 rfl ?_
                  refine g_bipush (pc := 41) hX 10 d_MD_numbered_41 (by decide) ?_
                  refine g_idiv (pc := 43) hX (0) d_MD_numbered_43 (by decide) (by decide) ?_
                  refine g_istore (pc := 44) hX d_MD_numbered_44 (by decide) ?_
                  refine g_goto (pc := 46) (tgt := 7) hX d_MD_numbered_46 (by decide) ?_
                  refine g_iload (pc := 7) hX d_MD_numbered_7 rfl ?_
                  refine g_if_le (pc := 9) (tgt := 49) hX d_MD_numbered_9 (by decide) (by decide) (fun c_9 => ?_) (fun c_9 => ?_)
                  · refine g_lload_n (pc := 49) hX 3 d_MD_numbered_49 rfl rfl ?_
                    exact g_lret (pc := 50) hX hE d_MD_numbered_50 (by decide) (by decide) ⟨by unfold nmb nst; rw [if_neg (show ¬ ((1000 : Int) ≤ a) by omega), if_neg (show ¬ ((100 : Int) ≤ a) by omega), if_neg (show ¬ ((10 : Int) ≤ a) by omega), if_neg (show ¬ ((1 : Int) ≤ a) by omega)], rfl, rfl, rfl⟩
                  · exact absurd (by decide) c_9
                · refine g_lload_n (pc := 18) hX 3 d_MD_numbered_18 rfl rfl ?_
                  refine g_bipush (pc := 19) hX 8 d_MD_numbered_19 (by decide) ?_
                  refine g_lshl (pc := 21) hX (z * 256) d_MD_numbered_21 (lI_shl8 _) ?_
                  refine g_bipush (pc := 22) hX 48 d_MD_numbered_22 (by decide) ?_
                  refine g_iload_n (pc := 24) hX 2 d_MD_numbered_24 rfl rfl ?_
                  refine g_iload (pc := 25) hX d_MD_numbered_25 rfl ?_
                  refine g_idiv (pc := 27) hX (a / 1) d_MD_numbered_27 (by decide) (iI_div (a := a) (b := 1) (by omega) (by omega) (by omega) (by omega)) ?_
                  refine g_bipush (pc := 28) hX 10 d_MD_numbered_28 (by decide) ?_
                  refine g_irem (pc := 30) hX (a / 1 % 10) d_MD_numbered_30 (by decide) (iI_rem (a := a / 1) (b := 10) (by omega) (by omega) (by omega) (by omega)) ?_
                  refine g_iadd (pc := 31) hX d_MD_numbered_31 ?_
                  refine g_i2l (pc := 32) hX d_MD_numbered_32 (by omega) ?_
                  refine g_lor (pc := 33) hX ((z * 256 + (48 + a / 1 % 10))) d_MD_numbered_33 (lI_or8 (by omega) (by omega)) ?_
                  refine g_goto (pc := 34) (tgt := 38) hX d_MD_numbered_34 (by decide) ?_
                  refine g_lstore_n (pc := 38) hX 3 d_MD_numbered_38 rfl (by decide) ?_
                  refine g_iload (pc := 39) hX d_MD_numbered_39 rfl ?_
                  refine g_bipush (pc := 41) hX 10 d_MD_numbered_41 (by decide) ?_
                  refine g_idiv (pc := 43) hX (0) d_MD_numbered_43 (by decide) (by decide) ?_
                  refine g_istore (pc := 44) hX d_MD_numbered_44 (by decide) ?_
                  refine g_goto (pc := 46) (tgt := 7) hX d_MD_numbered_46 (by decide) ?_
                  refine g_iload (pc := 7) hX d_MD_numbered_7 rfl ?_
                  refine g_if_le (pc := 9) (tgt := 49) hX d_MD_numbered_9 (by decide) (by decide) (fun c_10 => ?_) (fun c_10 => ?_)
                  · refine g_lload_n (pc := 49) hX 3 d_MD_numbered_49 rfl rfl ?_
                    exact g_lret (pc := 50) hX hE d_MD_numbered_50 (by decide) (by decide) ⟨by unfold nmb nst; rw [if_neg (show ¬ ((1000 : Int) ≤ a) by omega), if_neg (show ¬ ((100 : Int) ≤ a) by omega), if_neg (show ¬ ((10 : Int) ≤ a) by omega), if_pos (show ((1 : Int) ≤ a) by omega)], rfl, rfl, rfl⟩
                  · exact absurd (by decide) c_10
            · refine g_lload_n (pc := 18) hX 3 d_MD_numbered_18 rfl rfl ?_
              refine g_bipush (pc := 19) hX 8 d_MD_numbered_19 (by decide) ?_
              refine g_lshl (pc := 21) hX (z * 256) d_MD_numbered_21 (lI_shl8 _) ?_
              refine g_bipush (pc := 22) hX 48 d_MD_numbered_22 (by decide) ?_
              refine g_iload_n (pc := 24) hX 2 d_MD_numbered_24 rfl rfl ?_
              refine g_iload (pc := 25) hX d_MD_numbered_25 rfl ?_
              refine g_idiv (pc := 27) hX (a / 10) d_MD_numbered_27 (by decide) (iI_div (a := a) (b := 10) (by omega) (by omega) (by omega) (by omega)) ?_
              refine g_bipush (pc := 28) hX 10 d_MD_numbered_28 (by decide) ?_
              refine g_irem (pc := 30) hX (a / 10 % 10) d_MD_numbered_30 (by decide) (iI_rem (a := a / 10) (b := 10) (by omega) (by omega) (by omega) (by omega)) ?_
              refine g_iadd (pc := 31) hX d_MD_numbered_31 ?_
              refine g_i2l (pc := 32) hX d_MD_numbered_32 (by omega) ?_
              refine g_lor (pc := 33) hX ((z * 256 + (48 + a / 10 % 10))) d_MD_numbered_33 (lI_or8 (by omega) (by omega)) ?_
              refine g_goto (pc := 34) (tgt := 38) hX d_MD_numbered_34 (by decide) ?_
              refine g_lstore_n (pc := 38) hX 3 d_MD_numbered_38 rfl (by decide) ?_
              refine g_iload (pc := 39) hX d_MD_numbered_39 rfl ?_
              refine g_bipush (pc := 41) hX 10 d_MD_numbered_41 (by decide) ?_
              refine g_idiv (pc := 43) hX (1) d_MD_numbered_43 (by decide) (by decide) ?_
              refine g_istore (pc := 44) hX d_MD_numbered_44 (by decide) ?_
              refine g_goto (pc := 46) (tgt := 7) hX d_MD_numbered_46 (by decide) ?_
              refine g_iload (pc := 7) hX d_MD_numbered_7 rfl ?_
              refine g_if_le (pc := 9) (tgt := 49) hX d_MD_numbered_9 (by decide) (by decide) (fun c_11 => ?_) (fun c_11 => ?_)
              · exact absurd c_11 (by decide)
              · refine g_iload_n (pc := 12) hX 2 d_MD_numbered_12 rfl rfl ?_
                refine g_iload (pc := 13) hX d_MD_numbered_13 rfl ?_
                refine g_icmp_lt (pc := 15) (tgt := 37) hX d_MD_numbered_15 (by decide) (by omega) (by omega) (fun c_12 => ?_) (fun c_12 => ?_)
                · exact absurd c_12 (by omega)
                · refine g_lload_n (pc := 18) hX 3 d_MD_numbered_18 rfl rfl ?_
                  refine g_bipush (pc := 19) hX 8 d_MD_numbered_19 (by decide) ?_
                  refine g_lshl (pc := 21) hX ((z * 256 + (48 + a / 10 % 10)) * 256) d_MD_numbered_21 (lI_shl8 _) ?_
                  refine g_bipush (pc := 22) hX 48 d_MD_numbered_22 (by decide) ?_
                  refine g_iload_n (pc := 24) hX 2 d_MD_numbered_24 rfl rfl ?_
                  refine g_iload (pc := 25) hX d_MD_numbered_25 rfl ?_
                  refine g_idiv (pc := 27) hX (a / 1) d_MD_numbered_27 (by decide) (iI_div (a := a) (b := 1) (by omega) (by omega) (by omega) (by omega)) ?_
                  refine g_bipush (pc := 28) hX 10 d_MD_numbered_28 (by decide) ?_
                  refine g_irem (pc := 30) hX (a / 1 % 10) d_MD_numbered_30 (by decide) (iI_rem (a := a / 1) (b := 10) (by omega) (by omega) (by omega) (by omega)) ?_
                  refine g_iadd (pc := 31) hX d_MD_numbered_31 ?_
                  refine g_i2l (pc := 32) hX d_MD_numbered_32 (by omega) ?_
                  refine g_lor (pc := 33) hX (((z * 256 + (48 + a / 10 % 10)) * 256 + (48 + a / 1 % 10))) d_MD_numbered_33 (lI_or8 (by omega) (by omega)) ?_
                  refine g_goto (pc := 34) (tgt := 38) hX d_MD_numbered_34 (by decide) ?_
                  refine g_lstore_n (pc := 38) hX 3 d_MD_numbered_38 rfl (by decide) ?_
                  refine g_iload (pc := 39) hX d_MD_numbered_39 rfl ?_
                  refine g_bipush (pc := 41) hX 10 d_MD_numbered_41 (by decide) ?_
                  refine g_idiv (pc := 43) hX (0) d_MD_numbered_43 (by decide) (by decide) ?_
                  refine g_istore (pc := 44) hX d_MD_numbered_44 (by decide) ?_
                  refine g_goto (pc := 46) (tgt := 7) hX d_MD_numbered_46 (by decide) ?_
                  refine g_iload (pc := 7) hX d_MD_numbered_7 rfl ?_
                  refine g_if_le (pc := 9) (tgt := 49) hX d_MD_numbered_9 (by decide) (by decide) (fun c_13 => ?_) (fun c_13 => ?_)
                  · refine g_lload_n (pc := 49) hX 3 d_MD_numbered_49 rfl rfl ?_
                    exact g_lret (pc := 50) hX hE d_MD_numbered_50 (by decide) (by decide) ⟨by unfold nmb nst; rw [if_neg (show ¬ ((1000 : Int) ≤ a) by omega), if_neg (show ¬ ((100 : Int) ≤ a) by omega), if_pos (show ((10 : Int) ≤ a) by omega), if_pos (show ((1 : Int) ≤ a) by omega)], rfl, rfl, rfl⟩
                  · exact absurd (by decide) c_13
        · refine g_lload_n (pc := 18) hX 3 d_MD_numbered_18 rfl rfl ?_
          refine g_bipush (pc := 19) hX 8 d_MD_numbered_19 (by decide) ?_
          refine g_lshl (pc := 21) hX (z * 256) d_MD_numbered_21 (lI_shl8 _) ?_
          refine g_bipush (pc := 22) hX 48 d_MD_numbered_22 (by decide) ?_
          refine g_iload_n (pc := 24) hX 2 d_MD_numbered_24 rfl rfl ?_
          refine g_iload (pc := 25) hX d_MD_numbered_25 rfl ?_
          refine g_idiv (pc := 27) hX (a / 100) d_MD_numbered_27 (by decide) (iI_div (a := a) (b := 100) (by omega) (by omega) (by omega) (by omega)) ?_
          refine g_bipush (pc := 28) hX 10 d_MD_numbered_28 (by decide) ?_
          refine g_irem (pc := 30) hX (a / 100 % 10) d_MD_numbered_30 (by decide) (iI_rem (a := a / 100) (b := 10) (by omega) (by omega) (by omega) (by omega)) ?_
          refine g_iadd (pc := 31) hX d_MD_numbered_31 ?_
          refine g_i2l (pc := 32) hX d_MD_numbered_32 (by omega) ?_
          refine g_lor (pc := 33) hX ((z * 256 + (48 + a / 100 % 10))) d_MD_numbered_33 (lI_or8 (by omega) (by omega)) ?_
          refine g_goto (pc := 34) (tgt := 38) hX d_MD_numbered_34 (by decide) ?_
          refine g_lstore_n (pc := 38) hX 3 d_MD_numbered_38 rfl (by decide) ?_
          refine g_iload (pc := 39) hX d_MD_numbered_39 rfl ?_
          refine g_bipush (pc := 41) hX 10 d_MD_numbered_41 (by decide) ?_
          refine g_idiv (pc := 43) hX (10) d_MD_numbered_43 (by decide) (by decide) ?_
          refine g_istore (pc := 44) hX d_MD_numbered_44 (by decide) ?_
          refine g_goto (pc := 46) (tgt := 7) hX d_MD_numbered_46 (by decide) ?_
          refine g_iload (pc := 7) hX d_MD_numbered_7 rfl ?_
          refine g_if_le (pc := 9) (tgt := 49) hX d_MD_numbered_9 (by decide) (by decide) (fun c_14 => ?_) (fun c_14 => ?_)
          · exact absurd c_14 (by decide)
          · refine g_iload_n (pc := 12) hX 2 d_MD_numbered_12 rfl rfl ?_
            refine g_iload (pc := 13) hX d_MD_numbered_13 rfl ?_
            refine g_icmp_lt (pc := 15) (tgt := 37) hX d_MD_numbered_15 (by decide) (by omega) (by omega) (fun c_15 => ?_) (fun c_15 => ?_)
            · exact absurd c_15 (by omega)
            · refine g_lload_n (pc := 18) hX 3 d_MD_numbered_18 rfl rfl ?_
              refine g_bipush (pc := 19) hX 8 d_MD_numbered_19 (by decide) ?_
              refine g_lshl (pc := 21) hX ((z * 256 + (48 + a / 100 % 10)) * 256) d_MD_numbered_21 (lI_shl8 _) ?_
              refine g_bipush (pc := 22) hX 48 d_MD_numbered_22 (by decide) ?_
              refine g_iload_n (pc := 24) hX 2 d_MD_numbered_24 rfl rfl ?_
              refine g_iload (pc := 25) hX d_MD_numbered_25 rfl ?_
              refine g_idiv (pc := 27) hX (a / 10) d_MD_numbered_27 (by decide) (iI_div (a := a) (b := 10) (by omega) (by omega) (by omega) (by omega)) ?_
              refine g_bipush (pc := 28) hX 10 d_MD_numbered_28 (by decide) ?_
              refine g_irem (pc := 30) hX (a / 10 % 10) d_MD_numbered_30 (by decide) (iI_rem (a := a / 10) (b := 10) (by omega) (by omega) (by omega) (by omega)) ?_
              refine g_iadd (pc := 31) hX d_MD_numbered_31 ?_
              refine g_i2l (pc := 32) hX d_MD_numbered_32 (by omega) ?_
              refine g_lor (pc := 33) hX (((z * 256 + (48 + a / 100 % 10)) * 256 + (48 + a / 10 % 10))) d_MD_numbered_33 (lI_or8 (by omega) (by omega)) ?_
              refine g_goto (pc := 34) (tgt := 38) hX d_MD_numbered_34 (by decide) ?_
              refine g_lstore_n (pc := 38) hX 3 d_MD_numbered_38 rfl (by decide) ?_
              refine g_iload (pc := 39) hX d_MD_numbered_39 rfl ?_
              refine g_bipush (pc := 41) hX 10 d_MD_numbered_41 (by decide) ?_
              refine g_idiv (pc := 43) hX (1) d_MD_numbered_43 (by decide) (by decide) ?_
              refine g_istore (pc := 44) hX d_MD_numbered_44 (by decide) ?_
              refine g_goto (pc := 46) (tgt := 7) hX d_MD_numbered_46 (by decide) ?_
              refine g_iload (pc := 7) hX d_MD_numbered_7 rfl ?_
              refine g_if_le (pc := 9) (tgt := 49) hX d_MD_numbered_9 (by decide) (by decide) (fun c_16 => ?_) (fun c_16 => ?_)
              · exact absurd c_16 (by decide)
              · refine g_iload_n (pc := 12) hX 2 d_MD_numbered_12 rfl rfl ?_
                refine g_iload (pc := 13) hX d_MD_numbered_13 rfl ?_
                refine g_icmp_lt (pc := 15) (tgt := 37) hX d_MD_numbered_15 (by decide) (by omega) (by omega) (fun c_17 => ?_) (fun c_17 => ?_)
                · exact absurd c_17 (by omega)
                · refine g_lload_n (pc := 18) hX 3 d_MD_numbered_18 rfl rfl ?_
                  refine g_bipush (pc := 19) hX 8 d_MD_numbered_19 (by decide) ?_
                  refine g_lshl (pc := 21) hX (((z * 256 + (48 + a / 100 % 10)) * 256 + (48 + a / 10 % 10)) * 256) d_MD_numbered_21 (lI_shl8 _) ?_
                  refine g_bipush (pc := 22) hX 48 d_MD_numbered_22 (by decide) ?_
                  refine g_iload_n (pc := 24) hX 2 d_MD_numbered_24 rfl rfl ?_
                  refine g_iload (pc := 25) hX d_MD_numbered_25 rfl ?_
                  refine g_idiv (pc := 27) hX (a / 1) d_MD_numbered_27 (by decide) (iI_div (a := a) (b := 1) (by omega) (by omega) (by omega) (by omega)) ?_
                  refine g_bipush (pc := 28) hX 10 d_MD_numbered_28 (by decide) ?_
                  refine g_irem (pc := 30) hX (a / 1 % 10) d_MD_numbered_30 (by decide) (iI_rem (a := a / 1) (b := 10) (by omega) (by omega) (by omega) (by omega)) ?_
                  refine g_iadd (pc := 31) hX d_MD_numbered_31 ?_
                  refine g_i2l (pc := 32) hX d_MD_numbered_32 (by omega) ?_
                  refine g_lor (pc := 33) hX ((((z * 256 + (48 + a / 100 % 10)) * 256 + (48 + a / 10 % 10)) * 256 + (48 + a / 1 % 10))) d_MD_numbered_33 (lI_or8 (by omega) (by omega)) ?_
                  refine g_goto (pc := 34) (tgt := 38) hX d_MD_numbered_34 (by decide) ?_
                  refine g_lstore_n (pc := 38) hX 3 d_MD_numbered_38 rfl (by decide) ?_
                  refine g_iload (pc := 39) hX d_MD_numbered_39 rfl ?_
                  refine g_bipush (pc := 41) hX 10 d_MD_numbered_41 (by decide) ?_
                  refine g_idiv (pc := 43) hX (0) d_MD_numbered_43 (by decide) (by decide) ?_
                  refine g_istore (pc := 44) hX d_MD_numbered_44 (by decide) ?_
                  refine g_goto (pc := 46) (tgt := 7) hX d_MD_numbered_46 (by decide) ?_
                  refine g_iload (pc := 7) hX d_MD_numbered_7 rfl ?_
                  refine g_if_le (pc := 9) (tgt := 49) hX d_MD_numbered_9 (by decide) (by decide) (fun c_18 => ?_) (fun c_18 => ?_)
                  · refine g_lload_n (pc := 49) hX 3 d_MD_numbered_49 rfl rfl ?_
                    exact g_lret (pc := 50) hX hE d_MD_numbered_50 (by decide) (by decide) ⟨by unfold nmb nst; rw [if_neg (show ¬ ((1000 : Int) ≤ a) by omega), if_pos (show ((100 : Int) ≤ a) by omega), if_pos (show ((10 : Int) ≤ a) by omega), if_pos (show ((1 : Int) ≤ a) by omega)], rfl, rfl, rfl⟩
                  · exact absurd (by decide) c_18
    · refine g_lload_n (pc := 18) hX 3 d_MD_numbered_18 rfl rfl ?_
      refine g_bipush (pc := 19) hX 8 d_MD_numbered_19 (by decide) ?_
      refine g_lshl (pc := 21) hX (z * 256) d_MD_numbered_21 (lI_shl8 _) ?_
      refine g_bipush (pc := 22) hX 48 d_MD_numbered_22 (by decide) ?_
      refine g_iload_n (pc := 24) hX 2 d_MD_numbered_24 rfl rfl ?_
      refine g_iload (pc := 25) hX d_MD_numbered_25 rfl ?_
      refine g_idiv (pc := 27) hX (a / 1000) d_MD_numbered_27 (by decide) (iI_div (a := a) (b := 1000) (by omega) (by omega) (by omega) (by omega)) ?_
      refine g_bipush (pc := 28) hX 10 d_MD_numbered_28 (by decide) ?_
      refine g_irem (pc := 30) hX (a / 1000 % 10) d_MD_numbered_30 (by decide) (iI_rem (a := a / 1000) (b := 10) (by omega) (by omega) (by omega) (by omega)) ?_
      refine g_iadd (pc := 31) hX d_MD_numbered_31 ?_
      refine g_i2l (pc := 32) hX d_MD_numbered_32 (by omega) ?_
      refine g_lor (pc := 33) hX ((z * 256 + (48 + a / 1000 % 10))) d_MD_numbered_33 (lI_or8 (by omega) (by omega)) ?_
      refine g_goto (pc := 34) (tgt := 38) hX d_MD_numbered_34 (by decide) ?_
      refine g_lstore_n (pc := 38) hX 3 d_MD_numbered_38 rfl (by decide) ?_
      refine g_iload (pc := 39) hX d_MD_numbered_39 rfl ?_
      refine g_bipush (pc := 41) hX 10 d_MD_numbered_41 (by decide) ?_
      refine g_idiv (pc := 43) hX (100) d_MD_numbered_43 (by decide) (by decide) ?_
      refine g_istore (pc := 44) hX d_MD_numbered_44 (by decide) ?_
      refine g_goto (pc := 46) (tgt := 7) hX d_MD_numbered_46 (by decide) ?_
      refine g_iload (pc := 7) hX d_MD_numbered_7 rfl ?_
      refine g_if_le (pc := 9) (tgt := 49) hX d_MD_numbered_9 (by decide) (by decide) (fun c_19 => ?_) (fun c_19 => ?_)
      · exact absurd c_19 (by decide)
      · refine g_iload_n (pc := 12) hX 2 d_MD_numbered_12 rfl rfl ?_
        refine g_iload (pc := 13) hX d_MD_numbered_13 rfl ?_
        refine g_icmp_lt (pc := 15) (tgt := 37) hX d_MD_numbered_15 (by decide) (by omega) (by omega) (fun c_20 => ?_) (fun c_20 => ?_)
        · exact absurd c_20 (by omega)
        · refine g_lload_n (pc := 18) hX 3 d_MD_numbered_18 rfl rfl ?_
          refine g_bipush (pc := 19) hX 8 d_MD_numbered_19 (by decide) ?_
          refine g_lshl (pc := 21) hX ((z * 256 + (48 + a / 1000 % 10)) * 256) d_MD_numbered_21 (lI_shl8 _) ?_
          refine g_bipush (pc := 22) hX 48 d_MD_numbered_22 (by decide) ?_
          refine g_iload_n (pc := 24) hX 2 d_MD_numbered_24 rfl rfl ?_
          refine g_iload (pc := 25) hX d_MD_numbered_25 rfl ?_
          refine g_idiv (pc := 27) hX (a / 100) d_MD_numbered_27 (by decide) (iI_div (a := a) (b := 100) (by omega) (by omega) (by omega) (by omega)) ?_
          refine g_bipush (pc := 28) hX 10 d_MD_numbered_28 (by decide) ?_
          refine g_irem (pc := 30) hX (a / 100 % 10) d_MD_numbered_30 (by decide) (iI_rem (a := a / 100) (b := 10) (by omega) (by omega) (by omega) (by omega)) ?_
          refine g_iadd (pc := 31) hX d_MD_numbered_31 ?_
          refine g_i2l (pc := 32) hX d_MD_numbered_32 (by omega) ?_
          refine g_lor (pc := 33) hX (((z * 256 + (48 + a / 1000 % 10)) * 256 + (48 + a / 100 % 10))) d_MD_numbered_33 (lI_or8 (by omega) (by omega)) ?_
          refine g_goto (pc := 34) (tgt := 38) hX d_MD_numbered_34 (by decide) ?_
          refine g_lstore_n (pc := 38) hX 3 d_MD_numbered_38 rfl (by decide) ?_
          refine g_iload (pc := 39) hX d_MD_numbered_39 rfl ?_
          refine g_bipush (pc := 41) hX 10 d_MD_numbered_41 (by decide) ?_
          refine g_idiv (pc := 43) hX (10) d_MD_numbered_43 (by decide) (by decide) ?_
          refine g_istore (pc := 44) hX d_MD_numbered_44 (by decide) ?_
          refine g_goto (pc := 46) (tgt := 7) hX d_MD_numbered_46 (by decide) ?_
          refine g_iload (pc := 7) hX d_MD_numbered_7 rfl ?_
          refine g_if_le (pc := 9) (tgt := 49) hX d_MD_numbered_9 (by decide) (by decide) (fun c_21 => ?_) (fun c_21 => ?_)
          · exact absurd c_21 (by decide)
          · refine g_iload_n (pc := 12) hX 2 d_MD_numbered_12 rfl rfl ?_
            refine g_iload (pc := 13) hX d_MD_numbered_13 rfl ?_
            refine g_icmp_lt (pc := 15) (tgt := 37) hX d_MD_numbered_15 (by decide) (by omega) (by omega) (fun c_22 => ?_) (fun c_22 => ?_)
            · exact absurd c_22 (by omega)
            · refine g_lload_n (pc := 18) hX 3 d_MD_numbered_18 rfl rfl ?_
              refine g_bipush (pc := 19) hX 8 d_MD_numbered_19 (by decide) ?_
              refine g_lshl (pc := 21) hX (((z * 256 + (48 + a / 1000 % 10)) * 256 + (48 + a / 100 % 10)) * 256) d_MD_numbered_21 (lI_shl8 _) ?_
              refine g_bipush (pc := 22) hX 48 d_MD_numbered_22 (by decide) ?_
              refine g_iload_n (pc := 24) hX 2 d_MD_numbered_24 rfl rfl ?_
              refine g_iload (pc := 25) hX d_MD_numbered_25 rfl ?_
              refine g_idiv (pc := 27) hX (a / 10) d_MD_numbered_27 (by decide) (iI_div (a := a) (b := 10) (by omega) (by omega) (by omega) (by omega)) ?_
              refine g_bipush (pc := 28) hX 10 d_MD_numbered_28 (by decide) ?_
              refine g_irem (pc := 30) hX (a / 10 % 10) d_MD_numbered_30 (by decide) (iI_rem (a := a / 10) (b := 10) (by omega) (by omega) (by omega) (by omega)) ?_
              refine g_iadd (pc := 31) hX d_MD_numbered_31 ?_
              refine g_i2l (pc := 32) hX d_MD_numbered_32 (by omega) ?_
              refine g_lor (pc := 33) hX ((((z * 256 + (48 + a / 1000 % 10)) * 256 + (48 + a / 100 % 10)) * 256 + (48 + a / 10 % 10))) d_MD_numbered_33 (lI_or8 (by omega) (by omega)) ?_
              refine g_goto (pc := 34) (tgt := 38) hX d_MD_numbered_34 (by decide) ?_
              refine g_lstore_n (pc := 38) hX 3 d_MD_numbered_38 rfl (by decide) ?_
              refine g_iload (pc := 39) hX d_MD_numbered_39 rfl ?_
              refine g_bipush (pc := 41) hX 10 d_MD_numbered_41 (by decide) ?_
              refine g_idiv (pc := 43) hX (1) d_MD_numbered_43 (by decide) (by decide) ?_
              refine g_istore (pc := 44) hX d_MD_numbered_44 (by decide) ?_
              refine g_goto (pc := 46) (tgt := 7) hX d_MD_numbered_46 (by decide) ?_
              refine g_iload (pc := 7) hX d_MD_numbered_7 rfl ?_
              refine g_if_le (pc := 9) (tgt := 49) hX d_MD_numbered_9 (by decide) (by decide) (fun c_23 => ?_) (fun c_23 => ?_)
              · exact absurd c_23 (by decide)
              · refine g_iload_n (pc := 12) hX 2 d_MD_numbered_12 rfl rfl ?_
                refine g_iload (pc := 13) hX d_MD_numbered_13 rfl ?_
                refine g_icmp_lt (pc := 15) (tgt := 37) hX d_MD_numbered_15 (by decide) (by omega) (by omega) (fun c_24 => ?_) (fun c_24 => ?_)
                · exact absurd c_24 (by omega)
                · refine g_lload_n (pc := 18) hX 3 d_MD_numbered_18 rfl rfl ?_
                  refine g_bipush (pc := 19) hX 8 d_MD_numbered_19 (by decide) ?_
                  refine g_lshl (pc := 21) hX ((((z * 256 + (48 + a / 1000 % 10)) * 256 + (48 + a / 100 % 10)) * 256 + (48 + a / 10 % 10)) * 256) d_MD_numbered_21 (lI_shl8 _) ?_
                  refine g_bipush (pc := 22) hX 48 d_MD_numbered_22 (by decide) ?_
                  refine g_iload_n (pc := 24) hX 2 d_MD_numbered_24 rfl rfl ?_
                  refine g_iload (pc := 25) hX d_MD_numbered_25 rfl ?_
                  refine g_idiv (pc := 27) hX (a / 1) d_MD_numbered_27 (by decide) (iI_div (a := a) (b := 1) (by omega) (by omega) (by omega) (by omega)) ?_
                  refine g_bipush (pc := 28) hX 10 d_MD_numbered_28 (by decide) ?_
                  refine g_irem (pc := 30) hX (a / 1 % 10) d_MD_numbered_30 (by decide) (iI_rem (a := a / 1) (b := 10) (by omega) (by omega) (by omega) (by omega)) ?_
                  refine g_iadd (pc := 31) hX d_MD_numbered_31 ?_
                  refine g_i2l (pc := 32) hX d_MD_numbered_32 (by omega) ?_
                  refine g_lor (pc := 33) hX (((((z * 256 + (48 + a / 1000 % 10)) * 256 + (48 + a / 100 % 10)) * 256 + (48 + a / 10 % 10)) * 256 + (48 + a / 1 % 10))) d_MD_numbered_33 (lI_or8 (by omega) (by omega)) ?_
                  refine g_goto (pc := 34) (tgt := 38) hX d_MD_numbered_34 (by decide) ?_
                  refine g_lstore_n (pc := 38) hX 3 d_MD_numbered_38 rfl (by decide) ?_
                  refine g_iload (pc := 39) hX d_MD_numbered_39 rfl ?_
                  refine g_bipush (pc := 41) hX 10 d_MD_numbered_41 (by decide) ?_
                  refine g_idiv (pc := 43) hX (0) d_MD_numbered_43 (by decide) (by decide) ?_
                  refine g_istore (pc := 44) hX d_MD_numbered_44 (by decide) ?_
                  refine g_goto (pc := 46) (tgt := 7) hX d_MD_numbered_46 (by decide) ?_
                  refine g_iload (pc := 7) hX d_MD_numbered_7 rfl ?_
                  refine g_if_le (pc := 9) (tgt := 49) hX d_MD_numbered_9 (by decide) (by decide) (fun c_25 => ?_) (fun c_25 => ?_)
                  · refine g_lload_n (pc := 49) hX 3 d_MD_numbered_49 rfl rfl ?_
                    exact g_lret (pc := 50) hX hE d_MD_numbered_50 (by decide) (by decide) ⟨by unfold nmb nst; rw [if_pos (show ((1000 : Int) ≤ a) by omega), if_pos (show ((100 : Int) ≤ a) by omega), if_pos (show ((10 : Int) ≤ a) by omega), if_pos (show ((1 : Int) ≤ a) by omega)], rfl, rfl, rfl⟩
                  · exact absurd (by decide) c_25

abbrev rm_MD_written : Room := { frames := 0, cells := 0, slots := 0, locals := 0 }
set_option maxHeartbeats 4000000 in
set_option maxRecDepth 100000 in
theorem c_MD_written (l : Launch) (E : gE) (m : Nat) (A : Nat → Nat) (gn ln n kn sn dn : Nat) (mt mg : Int) (SK SB : Nat → Int) (k : Int) (hk : gin k) (w : Int) (hw : gin w) (hsn : sn ≤ 3000) (hS : ∀ j, j < sn → gin (SK j)) : CtL l E y_MD_written b_MD_written 3 (some .long) rm_MD_written [.ref m, .int (iI k), .int (iI w)] (mdO m A gn ln n kn sn dn mt mg ++ mI E A 7 SK ++ mL E A 8 SB) (wrtM sn SK SB k w) := by
  refine g_start (by decide) (Nat.le_of_ble_eq_true rfl) (fun X hX hE hin => ?_)
  refine g_iload_n (pc := 0) hX 1 d_MD_written_0 rfl rfl ?_
  refine g_if_lt (pc := 1) (tgt := 21) hX d_MD_written_1 (by decide) (by omega) (fun c_1 => ?_) (fun c_1 => ?_)
  · have wv1 : wrtM sn SK SB k w = -1 := by
      unfold wrtM
      by_cases h1 : 0 ≤ k ∧ k < sn
      · rw [if_pos h1, if_neg (by omega), if_neg (by omega)]
      · rw [if_neg h1]
    refine g_ldc2 (pc := 21) hX (-1) w_599 (by decide) d_MD_written_21 ?_
    exact g_lret (pc := 24) hX hE d_MD_written_24 (by decide) (by decide) ⟨by rw [wv1], rfl, rfl, rfl⟩
  · refine g_iload_n (pc := 4) hX 1 d_MD_written_4 rfl rfl ?_
    refine g_aload_n (pc := 5) hX 0 d_MD_written_5 rfl rfl ?_
    refine g_get (pc := 6) hX f_MD_156 0 rfl rfl d_MD_written_6 ?_
    refine g_icmp_ge (pc := 9) (tgt := 21) hX d_MD_written_9 (by decide) (by omega) (by omega) (fun c_2 => ?_) (fun c_2 => ?_)
    · have wv1 : wrtM sn SK SB k w = -1 := by
        unfold wrtM
        by_cases h1 : 0 ≤ k ∧ k < sn
        · rw [if_pos h1, if_neg (by omega), if_neg (by omega)]
        · rw [if_neg h1]
      refine g_ldc2 (pc := 21) hX (-1) w_599 (by decide) d_MD_written_21 ?_
      exact g_lret (pc := 24) hX hE d_MD_written_24 (by decide) (by decide) ⟨by rw [wv1], rfl, rfl, rfl⟩
    · refine g_iload_n (pc := 12) hX 2 d_MD_written_12 rfl rfl ?_
      refine g_if_lt (pc := 13) (tgt := 21) hX d_MD_written_13 (by decide) (by omega) (fun c_3 => ?_) (fun c_3 => ?_)
      · have wv1 : wrtM sn SK SB k w = -1 := by
          unfold wrtM
          by_cases h1 : 0 ≤ k ∧ k < sn
          · rw [if_pos h1, if_neg (by omega), if_neg (by omega)]
          · rw [if_neg h1]
        refine g_ldc2 (pc := 21) hX (-1) w_599 (by decide) d_MD_written_21 ?_
        exact g_lret (pc := 24) hX hE d_MD_written_24 (by decide) (by decide) ⟨by rw [wv1], rfl, rfl, rfl⟩
      · refine g_iload_n (pc := 16) hX 2 d_MD_written_16 rfl rfl ?_
        refine g_iconst (pc := 17) hX d_MD_written_17 ?_
        refine g_icmp_le (pc := 18) (tgt := 25) hX d_MD_written_18 (by decide) (by omega) (by omega) (fun c_4 => ?_) (fun c_4 => ?_)
        · obtain ⟨kn, rfl⟩ : ∃ kn : Nat, k = kn := ⟨k.toNat, by omega⟩
          have hq := hS kn (by omega)
          refine g_iload_n (pc := 25) hX 2 d_MD_written_25 rfl rfl ?_
          refine g_if_ne (pc := 26) (tgt := 39) hX d_MD_written_26 (by decide) (by omega) (fun c_5 => ?_) (fun c_5 => ?_)
          · refine g_aload_n (pc := 39) hX 0 d_MD_written_39 rfl rfl ?_
            refine g_get (pc := 40) hX f_MD_35 0 rfl rfl d_MD_written_40 ?_
            refine g_iload_n (pc := 43) hX 1 d_MD_written_43 rfl rfl ?_
            refine g_ladN (pc := 44) hX 2 (k := kn) rfl (by omega) d_MD_written_44 ?_
            exact g_lret (pc := 45) hX hE d_MD_written_45 (by decide) (by decide) ⟨by unfold wrtM; rw [if_pos (by omega), if_neg (by omega), if_pos (by omega)] <;> rfl, rfl, rfl, rfl⟩
          · refine g_aload_n (pc := 29) hX 0 d_MD_written_29 rfl rfl ?_
            refine g_get (pc := 30) hX f_MD_32 0 rfl rfl d_MD_written_30 ?_
            refine g_iload_n (pc := 33) hX 1 d_MD_written_33 rfl rfl ?_
            refine g_iadN (pc := 34) hX 1 (k := kn) rfl (by omega) d_MD_written_34 ?_
            refine g_i2l (pc := 35) hX d_MD_written_35 (by omega) ?_
            refine g_goto (pc := 36) (tgt := 45) hX d_MD_written_36 (by decide) ?_
            exact g_lret (pc := 45) hX hE d_MD_written_45 (by decide) (by decide) ⟨by unfold wrtM; rw [if_pos (by omega), if_pos (by omega)] <;> rfl, rfl, rfl, rfl⟩
        · have wv1 : wrtM sn SK SB k w = -1 := by
            unfold wrtM
            by_cases h1 : 0 ≤ k ∧ k < sn
            · rw [if_pos h1, if_neg (by omega), if_neg (by omega)]
            · rw [if_neg h1]
          refine g_ldc2 (pc := 21) hX (-1) w_599 (by decide) d_MD_written_21 ?_
          exact g_lret (pc := 24) hX hE d_MD_written_24 (by decide) (by decide) ⟨by rw [wv1], rfl, rfl, rfl⟩

abbrev rm_MD_again : Room := { frames := 0, cells := 0, slots := 0, locals := 0 }
set_option maxHeartbeats 4000000 in
set_option maxRecDepth 100000 in
theorem c_MD_again (l : Launch) (E : gE) (m : Nat) (A : Nat → Nat) (gn ln n kn sn dn : Nat) (mt mg : Int) (LK LB SK SB : Nat → Int) (hn : sn ≤ 3000) : Ct l E y_MD_again b_MD_again 2 (some .int) rm_MD_again [.ref m] (mdO m A gn ln n kn sn dn mt mg ++ mI E A 1 LK ++ mL E A 2 LB ++ mI E A 7 SK ++ mL E A 8 SB) (fun vv ww dc ds => ∃ F Q, vv = some (.int (iI (sn : Int))) ∧ ww = mdO m A gn sn n kn sn dn mt mg ++ mI E A 1 F ++ mL E A 2 Q ++ mI E A 7 SK ++ mL E A 8 SB ∧ (∀ j, j < sn → F j = SK j ∧ Q j = SB j) ∧ dc = 0 ∧ ds = 0) := by
  refine g_start (by decide) (Nat.le_of_ble_eq_true rfl) (fun X hX hE hin => ?_)
  refine g_aload_n (pc := 0) hX 0 d_MD_again_0 rfl rfl ?_
  refine g_aload_n (pc := 1) hX 0 d_MD_again_1 rfl rfl ?_
  refine g_get (pc := 2) hX f_MD_156 0 rfl rfl d_MD_again_2 ?_
  refine g_put (pc := 5) hX f_MD_83 gt_MD 0 rfl rfl rfl rfl (Nat.le_of_ble_eq_true rfl) d_MD_again_5 ?_
  refine g_ws (mdO m A gn sn n kn sn dn mt mg ++ mI E A 1 LK ++ mL E A 2 LB ++ mI E A 7 SK ++ mL E A 8 SB) rfl ?_
  refine g_iconst (pc := 8) hX d_MD_again_8 ?_
  refine g_istore_n (pc := 9) hX 1 d_MD_again_9 rfl (by decide) ?_
  have loop : ∀ (d : Nat) (k : Nat) (F Q : Nat → Int), sn < k + d → k ≤ sn → (∀ j, j < k → F j = SK j ∧ Q j = SB j) → gW X (mdO m A gn sn n kn sn dn mt mg ++ mI E A 1 F ++ mL E A 2 Q ++ mI E A 7 SK ++ mL E A 8 SB) 0 0 10 [(0, .ref m), (1, .int (iI (k : Int)))] [] := by
    intro d
    induction d with
    | zero => intro k F Q hfu hk hI; omega
    | succ d ih =>
      intro k F Q hfu hk hI
      refine g_iload_n (pc := 10) hX 1 d_MD_again_10 rfl rfl ?_
      refine g_aload_n (pc := 11) hX 0 d_MD_again_11 rfl rfl ?_
      refine g_get (pc := 12) hX f_MD_156 0 rfl rfl d_MD_again_12 ?_
      refine g_icmp_ge (pc := 15) (tgt := 48) hX d_MD_again_15 (by decide) (by omega) (by omega) (fun c_1 => ?_) (fun c_1 => ?_)
      · refine g_aload_n (pc := 48) hX 0 d_MD_again_48 rfl rfl ?_
        refine g_get (pc := 49) hX f_MD_83 0 rfl rfl d_MD_again_49 ?_
        exact g_iret (pc := 52) hX hE d_MD_again_52 (by decide) (by decide) ⟨F, Q, rfl, rfl, fun j hj => hI j (by omega), rfl, rfl⟩
      · refine g_aload_n (pc := 18) hX 0 d_MD_again_18 rfl rfl ?_
        refine g_get (pc := 19) hX f_MD_13 0 rfl rfl d_MD_again_19 ?_
        refine g_iload_n (pc := 22) hX 1 d_MD_again_22 rfl rfl ?_
        refine g_aload_n (pc := 23) hX 0 d_MD_again_23 rfl rfl ?_
        refine g_get (pc := 24) hX f_MD_32 0 rfl rfl d_MD_again_24 ?_
        refine g_iload_n (pc := 27) hX 1 d_MD_again_27 rfl rfl ?_
        refine g_iadN (pc := 28) hX 3 (k := k) rfl (by omega) d_MD_again_28 ?_
        refine g_iasN (pc := 29) hX 1 (k := k) (x := SK k) rfl (by omega) d_MD_again_29 ?_
        refine g_ws (mdO m A gn sn n kn sn dn mt mg ++ mI E A 1 (uZ F k (SK k)) ++ mL E A 2 Q ++ mI E A 7 SK ++ mL E A 8 SB) rfl ?_
        refine g_aload_n (pc := 30) hX 0 d_MD_again_30 rfl rfl ?_
        refine g_get (pc := 31) hX f_MD_17 0 rfl rfl d_MD_again_31 ?_
        refine g_iload_n (pc := 34) hX 1 d_MD_again_34 rfl rfl ?_
        refine g_aload_n (pc := 35) hX 0 d_MD_again_35 rfl rfl ?_
        refine g_get (pc := 36) hX f_MD_35 0 rfl rfl d_MD_again_36 ?_
        refine g_iload_n (pc := 39) hX 1 d_MD_again_39 rfl rfl ?_
        refine g_ladN (pc := 40) hX 4 (k := k) rfl (by omega) d_MD_again_40 ?_
        refine g_lasN (pc := 41) hX 2 (k := k) (x := SB k) rfl (by omega) d_MD_again_41 ?_
        refine g_ws (mdO m A gn sn n kn sn dn mt mg ++ mI E A 1 (uZ F k (SK k)) ++ mL E A 2 (uZ Q k (SB k)) ++ mI E A 7 SK ++ mL E A 8 SB) rfl ?_
        refine g_iinc (pc := 42) hX d_MD_again_42 (by decide) rfl ?_
        refine g_goto (pc := 45) (tgt := 10) hX d_MD_again_45 (by decide) ?_
        refine g_lv [(0, .ref m), (1, .int (iI ((k + 1 : Nat) : Int)))] ⟨rfl, rfl, trivial⟩ ?_
        exact ih (k + 1) (uZ F k (SK k)) (uZ Q k (SB k)) (by omega) (by omega) (fun j hj => by
          by_cases e : j = k
          · subst e; exact ⟨uZ_s, uZ_s⟩
          · rw [uZ_n e, uZ_n e]; exact hI j (by omega))
  refine g_lv [(0, .ref m), (1, .int (iI ((0 : Nat) : Int)))] ⟨rfl, rfl, trivial⟩ ?_
  exact loop (sn + 1) 0 LK LB (by omega) (by omega) (fun j hj => by omega)
  

abbrev rm_MD_keep : Room := { frames := 0, cells := 0, slots := 0, locals := 0 }
set_option maxHeartbeats 4000000 in
set_option maxRecDepth 100000 in
theorem c_MD_keep (l : Launch) (E : gE) (m : Nat) (A : Nat → Nat) (gn ln n kn sn dn : Nat) (mt mg : Int) (K B KK KB : Nat → Int) (hn : n ≤ 3000) : Ct l E y_MD_keep b_MD_keep 2 (some .int) rm_MD_keep [.ref m] (mdO m A gn ln n kn sn dn mt mg ++ mI E A 3 K ++ mL E A 4 B ++ mI E A 5 KK ++ mL E A 6 KB) (fun vv ww dc ds => ∃ F Q, vv = some (.int (iI (n : Int))) ∧ ww = mdO m A gn ln n n sn dn mt mg ++ mI E A 3 K ++ mL E A 4 B ++ mI E A 5 F ++ mL E A 6 Q ∧ (∀ j, j < n → F j = K j ∧ Q j = B j) ∧ dc = 0 ∧ ds = 0) := by
  refine g_start (by decide) (Nat.le_of_ble_eq_true rfl) (fun X hX hE hin => ?_)
  refine g_aload_n (pc := 0) hX 0 d_MD_keep_0 rfl rfl ?_
  refine g_aload_n (pc := 1) hX 0 d_MD_keep_1 rfl rfl ?_
  refine g_get (pc := 2) hX f_MD_53 0 rfl rfl d_MD_keep_2 ?_
  refine g_put (pc := 5) hX f_MD_159 gt_MD 0 rfl rfl rfl rfl (Nat.le_of_ble_eq_true rfl) d_MD_keep_5 ?_
  refine g_ws (mdO m A gn ln n n sn dn mt mg ++ mI E A 3 K ++ mL E A 4 B ++ mI E A 5 KK ++ mL E A 6 KB) rfl ?_
  refine g_iconst (pc := 8) hX d_MD_keep_8 ?_
  refine g_istore_n (pc := 9) hX 1 d_MD_keep_9 rfl (by decide) ?_
  have loop : ∀ (d : Nat) (k : Nat) (F Q : Nat → Int), n < k + d → k ≤ n → (∀ j, j < k → F j = K j ∧ Q j = B j) → gW X (mdO m A gn ln n n sn dn mt mg ++ mI E A 3 K ++ mL E A 4 B ++ mI E A 5 F ++ mL E A 6 Q) 0 0 10 [(0, .ref m), (1, .int (iI (k : Int)))] [] := by
    intro d
    induction d with
    | zero => intro k F Q hfu hk hI; omega
    | succ d ih =>
      intro k F Q hfu hk hI
      refine g_iload_n (pc := 10) hX 1 d_MD_keep_10 rfl rfl ?_
      refine g_aload_n (pc := 11) hX 0 d_MD_keep_11 rfl rfl ?_
      refine g_get (pc := 12) hX f_MD_53 0 rfl rfl d_MD_keep_12 ?_
      refine g_icmp_ge (pc := 15) (tgt := 48) hX d_MD_keep_15 (by decide) (by omega) (by omega) (fun c_1 => ?_) (fun c_1 => ?_)
      · refine g_aload_n (pc := 48) hX 0 d_MD_keep_48 rfl rfl ?_
        refine g_get (pc := 49) hX f_MD_159 0 rfl rfl d_MD_keep_49 ?_
        exact g_iret (pc := 52) hX hE d_MD_keep_52 (by decide) (by decide) ⟨F, Q, rfl, rfl, fun j hj => hI j (by omega), rfl, rfl⟩
      · refine g_aload_n (pc := 18) hX 0 d_MD_keep_18 rfl rfl ?_
        refine g_get (pc := 19) hX f_MD_26 0 rfl rfl d_MD_keep_19 ?_
        refine g_iload_n (pc := 22) hX 1 d_MD_keep_22 rfl rfl ?_
        refine g_aload_n (pc := 23) hX 0 d_MD_keep_23 rfl rfl ?_
        refine g_get (pc := 24) hX f_MD_20 0 rfl rfl d_MD_keep_24 ?_
        refine g_iload_n (pc := 27) hX 1 d_MD_keep_27 rfl rfl ?_
        refine g_iadN (pc := 28) hX 1 (k := k) rfl (by omega) d_MD_keep_28 ?_
        refine g_iasN (pc := 29) hX 3 (k := k) (x := K k) rfl (by omega) d_MD_keep_29 ?_
        refine g_ws (mdO m A gn ln n n sn dn mt mg ++ mI E A 3 K ++ mL E A 4 B ++ mI E A 5 (uZ F k (K k)) ++ mL E A 6 Q) rfl ?_
        refine g_aload_n (pc := 30) hX 0 d_MD_keep_30 rfl rfl ?_
        refine g_get (pc := 31) hX f_MD_29 0 rfl rfl d_MD_keep_31 ?_
        refine g_iload_n (pc := 34) hX 1 d_MD_keep_34 rfl rfl ?_
        refine g_aload_n (pc := 35) hX 0 d_MD_keep_35 rfl rfl ?_
        refine g_get (pc := 36) hX f_MD_23 0 rfl rfl d_MD_keep_36 ?_
        refine g_iload_n (pc := 39) hX 1 d_MD_keep_39 rfl rfl ?_
        refine g_ladN (pc := 40) hX 2 (k := k) rfl (by omega) d_MD_keep_40 ?_
        refine g_lasN (pc := 41) hX 4 (k := k) (x := B k) rfl (by omega) d_MD_keep_41 ?_
        refine g_ws (mdO m A gn ln n n sn dn mt mg ++ mI E A 3 K ++ mL E A 4 B ++ mI E A 5 (uZ F k (K k)) ++ mL E A 6 (uZ Q k (B k))) rfl ?_
        refine g_iinc (pc := 42) hX d_MD_keep_42 (by decide) rfl ?_
        refine g_goto (pc := 45) (tgt := 10) hX d_MD_keep_45 (by decide) ?_
        refine g_lv [(0, .ref m), (1, .int (iI ((k + 1 : Nat) : Int)))] ⟨rfl, rfl, trivial⟩ ?_
        exact ih (k + 1) (uZ F k (K k)) (uZ Q k (B k)) (by omega) (by omega) (fun j hj => by
          by_cases e : j = k
          · subst e; exact ⟨uZ_s, uZ_s⟩
          · rw [uZ_n e, uZ_n e]; exact hI j (by omega))
  refine g_lv [(0, .ref m), (1, .int (iI ((0 : Nat) : Int)))] ⟨rfl, rfl, trivial⟩ ?_
  exact loop (n + 1) 0 KK KB (by omega) (by omega) (fun j hj => by omega)
  

abbrev rm_MD_same : Room := { frames := 1, cells := 0, slots := 0, locals := 20 }
set_option maxHeartbeats 4000000 in
set_option maxRecDepth 100000 in
theorem c_MD_same (l : Launch) (E : gE) (m : Nat) (A : Nat → Nat) (gn ln n kn sn dn : Nat) (mt mg : Int) (K B KK KB : Nat → Int) (hn : n ≤ 3000 ∧ kn ≤ 3000) (hK : ∀ j, j < n → gin (K j) ∧ gil (B j)) (hKK : ∀ j, j < kn → gin (KK j) ∧ gil (KB j)) : CtI l E y_MD_same b_MD_same 3 (some .boolean) rm_MD_same [.ref m] (mdO m A gn ln n kn sn dn mt mg ++ mI E A 3 K ++ mL E A 4 B ++ mI E A 5 KK ++ mL E A 6 KB) (bZ (sameM n kn K B KK KB)) := by
  refine g_start (by decide) (Nat.le_of_ble_eq_true rfl) (fun X hX hE hin => ?_)
  refine g_aload_n (pc := 0) hX 0 d_MD_same_0 rfl rfl ?_
  refine g_get (pc := 1) hX f_MD_53 0 rfl rfl d_MD_same_1 ?_
  refine g_aload_n (pc := 4) hX 0 d_MD_same_4 rfl rfl ?_
  refine g_get (pc := 5) hX f_MD_159 0 rfl rfl d_MD_same_5 ?_
  refine g_icmp_ne (pc := 8) (tgt := 15) hX d_MD_same_8 (by decide) (by omega) (by omega) (fun c_1 => ?_) (fun c_1 => ?_)
  · refine g_iconst (pc := 15) hX d_MD_same_15 ?_
    refine g_istore_n (pc := 16) hX 1 d_MD_same_16 rfl (by decide) ?_
    refine g_iconst (pc := 17) hX d_MD_same_17 ?_
    refine g_istore_n (pc := 18) hX 2 d_MD_same_18 rfl (by decide) ?_
    refine g_iload_n (pc := 19) hX 2 d_MD_same_19 rfl rfl ?_
    refine g_aload_n (pc := 20) hX 0 d_MD_same_20 rfl rfl ?_
    refine g_get (pc := 21) hX f_MD_53 0 rfl rfl d_MD_same_21 ?_
    refine g_icmp_ge (pc := 24) (tgt := 86) hX d_MD_same_24 (by decide) (by omega) (by omega) (fun c_2 => ?_) (fun c_2 => ?_)
    · refine g_iload_n (pc := 86) hX 1 d_MD_same_86 rfl rfl ?_
      exact g_zret (pc := 87) hX hE (by first | exact Or.inl rfl | exact Or.inr rfl | exact bZ_01 _) d_MD_same_87 (by decide) (by decide) ⟨by rw [bZ_f (fun q => by have q1 := q.1; omega)], rfl, rfl, rfl⟩
    · refine g_iload_n (pc := 27) hX 1 d_MD_same_27 rfl rfl ?_
      refine g_if_eq (pc := 28) (tgt := 86) hX d_MD_same_28 (by decide) (by decide) (fun c_3 => ?_) (fun c_3 => ?_)
      · refine g_iload_n (pc := 86) hX 1 d_MD_same_86 rfl rfl ?_
        exact g_zret (pc := 87) hX hE (by first | exact Or.inl rfl | exact Or.inr rfl | exact bZ_01 _) d_MD_same_87 (by decide) (by decide) ⟨by rw [bZ_f (fun q => by have q1 := q.1; omega)], rfl, rfl, rfl⟩
      · exact absurd (by decide) c_3
  · have hnk : n = kn := by omega
    refine g_iconst (pc := 11) hX d_MD_same_11 ?_
    refine g_goto (pc := 12) (tgt := 16) hX d_MD_same_12 (by decide) ?_
    refine g_istore_n (pc := 16) hX 1 d_MD_same_16 rfl (by decide) ?_
    refine g_iconst (pc := 17) hX d_MD_same_17 ?_
    refine g_istore_n (pc := 18) hX 2 d_MD_same_18 rfl (by decide) ?_
    have loop : ∀ (d : Nat) (k : Nat), n < k + d → k ≤ n → (∀ j, j < k → K j = KK j ∧ (bP (K j) ∨ B j = KB j)) → gW X (mdO m A gn ln n kn sn dn mt mg ++ mI E A 3 K ++ mL E A 4 B ++ mI E A 5 KK ++ mL E A 6 KB) 0 0 19 [(0, .ref m), (1, .int (iI 1)), (2, .int (iI (k : Int)))] [] := by
      intro d
      induction d with
      | zero => intro k hfu hk hI; omega
      | succ d ih =>
        intro k hfu hk hI
        refine g_iload_n (pc := 19) hX 2 d_MD_same_19 rfl rfl ?_
        refine g_aload_n (pc := 20) hX 0 d_MD_same_20 rfl rfl ?_
        refine g_get (pc := 21) hX f_MD_53 0 rfl rfl d_MD_same_21 ?_
        refine g_icmp_ge (pc := 24) (tgt := 86) hX d_MD_same_24 (by decide) (by omega) (by omega) (fun c_4 => ?_) (fun c_4 => ?_)
        · refine g_iload_n (pc := 86) hX 1 d_MD_same_86 rfl rfl ?_
          exact g_zret (pc := 87) hX hE (by first | exact Or.inl rfl | exact Or.inr rfl | exact bZ_01 _) d_MD_same_87 (by decide) (by decide) ⟨by rw [bZ_t ⟨hnk, fun j hj => hI j (by omega)⟩], rfl, rfl, rfl⟩
        · refine g_iload_n (pc := 27) hX 1 d_MD_same_27 rfl rfl ?_
          refine g_if_eq (pc := 28) (tgt := 86) hX d_MD_same_28 (by decide) (by decide) (fun c_5 => ?_) (fun c_5 => ?_)
          · exact absurd c_5 (by decide)
          · obtain ⟨hq1, hq2⟩ := hK k (by omega)
            obtain ⟨hq3, hq4⟩ := hKK k (by omega)
            refine g_aload_n (pc := 31) hX 0 d_MD_same_31 rfl rfl ?_
            refine g_get (pc := 32) hX f_MD_20 0 rfl rfl d_MD_same_32 ?_
            refine g_iload_n (pc := 35) hX 2 d_MD_same_35 rfl rfl ?_
            refine g_iadN (pc := 36) hX 1 (k := k) rfl (by omega) d_MD_same_36 ?_
            refine g_aload_n (pc := 37) hX 0 d_MD_same_37 rfl rfl ?_
            refine g_get (pc := 38) hX f_MD_26 0 rfl rfl d_MD_same_38 ?_
            refine g_iload_n (pc := 41) hX 2 d_MD_same_41 rfl rfl ?_
            refine g_iadN (pc := 42) hX 3 (k := k) rfl (by omega) d_MD_same_42 ?_
            refine g_icmp_ne (pc := 43) (tgt := 78) hX d_MD_same_43 (by decide) (by omega) (by omega) (fun c_6 => ?_) (fun c_6 => ?_)
            · refine g_iconst (pc := 78) hX d_MD_same_78 ?_
              refine g_istore_n (pc := 79) hX 1 d_MD_same_79 rfl (by decide) ?_
              refine g_iinc (pc := 80) hX d_MD_same_80 (by decide) rfl ?_
              refine g_goto (pc := 83) (tgt := 19) hX d_MD_same_83 (by decide) ?_
              refine g_iload_n (pc := 19) hX 2 d_MD_same_19 rfl rfl ?_
              refine g_aload_n (pc := 20) hX 0 d_MD_same_20 rfl rfl ?_
              refine g_get (pc := 21) hX f_MD_53 0 rfl rfl d_MD_same_21 ?_
              refine g_icmp_ge (pc := 24) (tgt := 86) hX d_MD_same_24 (by decide) (by omega) (by omega) (fun c_7 => ?_) (fun c_7 => ?_)
              · refine g_iload_n (pc := 86) hX 1 d_MD_same_86 rfl rfl ?_
                exact g_zret (pc := 87) hX hE (by first | exact Or.inl rfl | exact Or.inr rfl | exact bZ_01 _) d_MD_same_87 (by decide) (by decide) ⟨by rw [bZ_f (fun q => by
                  have q3 := q.2 k (by omega)
                  obtain ⟨q4, q5⟩ := q3
                  first | omega | (rcases q5 with q5 | q5 <;> first | omega | (exact absurd q5 (by assumption))))], rfl, rfl, rfl⟩
              · refine g_iload_n (pc := 27) hX 1 d_MD_same_27 rfl rfl ?_
                refine g_if_eq (pc := 28) (tgt := 86) hX d_MD_same_28 (by decide) (by decide) (fun c_8 => ?_) (fun c_8 => ?_)
                · refine g_iload_n (pc := 86) hX 1 d_MD_same_86 rfl rfl ?_
                  exact g_zret (pc := 87) hX hE (by first | exact Or.inl rfl | exact Or.inr rfl | exact bZ_01 _) d_MD_same_87 (by decide) (by decide) ⟨by rw [bZ_f (fun q => by
                  have q3 := q.2 k (by omega)
                  obtain ⟨q4, q5⟩ := q3
                  first | omega | (rcases q5 with q5 | q5 <;> first | omega | (exact absurd q5 (by assumption))))], rfl, rfl, rfl⟩
                · exact absurd (by decide) c_8
            · refine g_aload_n (pc := 46) hX 0 d_MD_same_46 rfl rfl ?_
              refine g_get (pc := 47) hX f_MD_20 0 rfl rfl d_MD_same_47 ?_
              refine g_iload_n (pc := 50) hX 2 d_MD_same_50 rfl rfl ?_
              refine g_iadN (pc := 51) hX 1 (k := k) rfl (by omega) d_MD_same_51 ?_
              refine g_iS (pc := 52) hX (c_MD_binds l E _ (by omega)) gy_MD_binds w_581 w_580 rfl (by decide) (by decide) [] rfl (by decide +kernel) _ rfl (Nat.le_of_ble_eq_true rfl) d_MD_same_52 (by decide) (by decide) ?_
              refine g_bne (pc := 55) (tgt := 74) hX d_MD_same_55 (by decide) (fun c_9 => ?_) (fun c_9 => ?_)
              · refine g_iconst (pc := 74) hX d_MD_same_74 ?_
                refine g_goto (pc := 75) (tgt := 79) hX d_MD_same_75 (by decide) ?_
                refine g_istore_n (pc := 79) hX 1 d_MD_same_79 rfl (by decide) ?_
                refine g_iinc (pc := 80) hX d_MD_same_80 (by decide) rfl ?_
                refine g_goto (pc := 83) (tgt := 19) hX d_MD_same_83 (by decide) ?_
                refine g_lv [(0, .ref m), (1, .int (iI 1)), (2, .int (iI ((k + 1 : Nat) : Int)))] ⟨rfl, rfl, rfl, trivial⟩ ?_
                exact ih (k + 1)  (by omega) (by omega) (fun j hj => by
                  by_cases e : j = k
                  · subst e; exact ⟨by omega, Or.inl c_9⟩
                  · exact hI j (by omega))
              · refine g_aload_n (pc := 58) hX 0 d_MD_same_58 rfl rfl ?_
                refine g_get (pc := 59) hX f_MD_23 0 rfl rfl d_MD_same_59 ?_
                refine g_iload_n (pc := 62) hX 2 d_MD_same_62 rfl rfl ?_
                refine g_ladN (pc := 63) hX 2 (k := k) rfl (by omega) d_MD_same_63 ?_
                refine g_aload_n (pc := 64) hX 0 d_MD_same_64 rfl rfl ?_
                refine g_get (pc := 65) hX f_MD_29 0 rfl rfl d_MD_same_65 ?_
                refine g_iload_n (pc := 68) hX 2 d_MD_same_68 rfl rfl ?_
                refine g_ladN (pc := 69) hX 4 (k := k) rfl (by omega) d_MD_same_69 ?_
                refine g_lcmp_ne (pc := 70) (tgt := 78) hX d_MD_same_70 d_MD_same_71 (by decide) (by omega) (by omega) (fun c_10 => ?_) (fun c_10 => ?_)
                · refine g_iconst (pc := 78) hX d_MD_same_78 ?_
                  refine g_istore_n (pc := 79) hX 1 d_MD_same_79 rfl (by decide) ?_
                  refine g_iinc (pc := 80) hX d_MD_same_80 (by decide) rfl ?_
                  refine g_goto (pc := 83) (tgt := 19) hX d_MD_same_83 (by decide) ?_
                  refine g_iload_n (pc := 19) hX 2 d_MD_same_19 rfl rfl ?_
                  refine g_aload_n (pc := 20) hX 0 d_MD_same_20 rfl rfl ?_
                  refine g_get (pc := 21) hX f_MD_53 0 rfl rfl d_MD_same_21 ?_
                  refine g_icmp_ge (pc := 24) (tgt := 86) hX d_MD_same_24 (by decide) (by omega) (by omega) (fun c_11 => ?_) (fun c_11 => ?_)
                  · refine g_iload_n (pc := 86) hX 1 d_MD_same_86 rfl rfl ?_
                    exact g_zret (pc := 87) hX hE (by first | exact Or.inl rfl | exact Or.inr rfl | exact bZ_01 _) d_MD_same_87 (by decide) (by decide) ⟨by rw [bZ_f (fun q => by
                  have q3 := q.2 k (by omega)
                  obtain ⟨q4, q5⟩ := q3
                  first | omega | (rcases q5 with q5 | q5 <;> first | omega | (exact absurd q5 (by assumption))))], rfl, rfl, rfl⟩
                  · refine g_iload_n (pc := 27) hX 1 d_MD_same_27 rfl rfl ?_
                    refine g_if_eq (pc := 28) (tgt := 86) hX d_MD_same_28 (by decide) (by decide) (fun c_12 => ?_) (fun c_12 => ?_)
                    · refine g_iload_n (pc := 86) hX 1 d_MD_same_86 rfl rfl ?_
                      exact g_zret (pc := 87) hX hE (by first | exact Or.inl rfl | exact Or.inr rfl | exact bZ_01 _) d_MD_same_87 (by decide) (by decide) ⟨by rw [bZ_f (fun q => by
                  have q3 := q.2 k (by omega)
                  obtain ⟨q4, q5⟩ := q3
                  first | omega | (rcases q5 with q5 | q5 <;> first | omega | (exact absurd q5 (by assumption))))], rfl, rfl, rfl⟩
                    · exact absurd (by decide) c_12
                · refine g_iconst (pc := 74) hX d_MD_same_74 ?_
                  refine g_goto (pc := 75) (tgt := 79) hX d_MD_same_75 (by decide) ?_
                  refine g_istore_n (pc := 79) hX 1 d_MD_same_79 rfl (by decide) ?_
                  refine g_iinc (pc := 80) hX d_MD_same_80 (by decide) rfl ?_
                  refine g_goto (pc := 83) (tgt := 19) hX d_MD_same_83 (by decide) ?_
                  refine g_lv [(0, .ref m), (1, .int (iI 1)), (2, .int (iI ((k + 1 : Nat) : Int)))] ⟨rfl, rfl, rfl, trivial⟩ ?_
                  exact ih (k + 1)  (by omega) (by omega) (fun j hj => by
                    by_cases e : j = k
                    · subst e; exact ⟨by omega, Or.inr (by omega)⟩
                    · exact hI j (by omega))
    refine g_lv [(0, .ref m), (1, .int (iI 1)), (2, .int (iI ((0 : Nat) : Int)))] ⟨rfl, rfl, rfl, trivial⟩ ?_
    exact loop (n + 1) 0  (by omega) (by omega) (fun j hj => by omega)
    
