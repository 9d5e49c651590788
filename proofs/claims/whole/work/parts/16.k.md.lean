abbrev rm_MD_findBinders : Room := { frames := 1, cells := 0, slots := 0, locals := 21 }
set_option maxHeartbeats 4000000 in
set_option maxRecDepth 100000 in
theorem c_MD_findBinders (l : Launch) (E : gE) (m : Nat) (A : Nat → Nat) (gn ln n kn sn dn : Nat) (mt mg : Int) (K B SZ WH BO : Nat → Int) (σ : Nat → Nat) (hO : oneS n K σ) (hm : meaM n K σ SZ WH) (hcl : ∀ j, j < n → K j = 0 → 0 ≤ B j ∧ B j < ((env K j).length : Int)) (hB : ∀ j, j < n → gil (B j)) : Ct l E y_MD_findBinders b_MD_findBinders 6 none rm_MD_findBinders [.ref m] (mdO m A gn ln n kn sn dn mt mg ++ mI E A 3 K ++ mL E A 4 B ++ mI E A 11 SZ ++ mI E A 12 WH ++ mI E A 13 BO) (fun vv ww dc ds => ∃ O, vv = none ∧ ww = mdO m A gn ln n kn sn dn mt mg ++ mI E A 3 K ++ mL E A 4 B ++ mI E A 11 SZ ++ mI E A 12 WH ++ mI E A 13 O ∧ (∀ j, j < n → K j = 0 → O j = ((bOf K B j : Nat) : Int)) ∧ dc = 0 ∧ ds = 0) := by
  obtain ⟨hz, h0, hN, hN2, hkd⟩ := id hO
  refine g_start (by decide) (Nat.le_of_ble_eq_true rfl) (fun X hX hE hin => ?_)
  refine g_iconst (pc := 0) hX d_MD_findBinders_0 ?_
  refine g_istore_n (pc := 1) hX 1 d_MD_findBinders_1 rfl (by decide) ?_
  have loop1 : ∀ (d1 : Nat) (k : Nat) (O : Nat → Int), n < k + d1 → k ≤ n → (∀ j, j < k → K j = 0 → O j = ((bOf K B j : Nat) : Int)) → gW X (mdO m A gn ln n kn sn dn mt mg ++ mI E A 3 K ++ mL E A 4 B ++ mI E A 11 SZ ++ mI E A 12 WH ++ mI E A 13 O) 0 0 2 [(0, .ref m), (1, .int (iI (k : Int)))] [] := by
    intro d1
    induction d1 with
    | zero => intro k O hfu1 hk hI; omega
    | succ d1 ih1 =>
      intro k O hfu1 hk hI
      refine g_iload_n (pc := 2) hX 1 d_MD_findBinders_2 rfl rfl ?_
      refine g_aload_n (pc := 3) hX 0 d_MD_findBinders_3 rfl rfl ?_
      refine g_get (pc := 4) hX f_MD_53 0 rfl rfl d_MD_findBinders_4 ?_
      refine g_icmp_ge (pc := 7) (tgt := 116) hX d_MD_findBinders_7 (by decide) (by omega) (by omega) (fun c_1 => ?_) (fun c_1 => ?_)
      · exact g_vret (pc := 116) hX hE d_MD_findBinders_116 (by decide) (by decide) ⟨O, rfl, rfl, fun j hj => hI j (by omega), rfl, rfl⟩
      · have hKk := hkd k (by omega)
        have hBk := hB k (by omega)
        refine g_aload_n (pc := 10) hX 0 d_MD_findBinders_10 rfl rfl ?_
        refine g_get (pc := 11) hX f_MD_50 0 rfl rfl d_MD_findBinders_11 ?_
        refine g_iload_n (pc := 14) hX 1 d_MD_findBinders_14 rfl rfl ?_
        refine g_iconst (pc := 15) hX d_MD_findBinders_15 ?_
        refine g_iasN (pc := 16) hX 5 (k := k) (x := (-1)) rfl (by omega) d_MD_findBinders_16 ?_
        refine g_ws (mdO m A gn ln n kn sn dn mt mg ++ mI E A 3 K ++ mL E A 4 B ++ mI E A 11 SZ ++ mI E A 12 WH ++ mI E A 13 (uZ O k (-1))) rfl ?_
        refine g_aload_n (pc := 17) hX 0 d_MD_findBinders_17 rfl rfl ?_
        refine g_get (pc := 18) hX f_MD_20 0 rfl rfl d_MD_findBinders_18 ?_
        refine g_iload_n (pc := 21) hX 1 d_MD_findBinders_21 rfl rfl ?_
        refine g_iadN (pc := 22) hX 1 (k := k) rfl (by omega) d_MD_findBinders_22 ?_
        refine g_if_ne (pc := 23) (tgt := 35) hX d_MD_findBinders_23 (by decide) (by omega) (fun c_2 => ?_) (fun c_2 => ?_)
        · refine g_ldc2 (pc := 35) hX (-1) w_599 (by decide) d_MD_findBinders_35 ?_
          refine g_lstore_n (pc := 38) hX 2 d_MD_findBinders_38 rfl (by decide) ?_
          refine g_iload_n (pc := 39) hX 1 d_MD_findBinders_39 rfl rfl ?_
          refine g_istore (pc := 40) hX d_MD_findBinders_40 (by decide) ?_
          have loop2 : ∀ (d2 : Nat) (p : Nat) (b : Int) (O2 : Nat → Int), p < d2 → p < n → (∀ j, j < k → K j = 0 → O2 j = ((bOf K B j : Nat) : Int)) → fbI K O2 k p b (bOf K B k) → gW X (mdO m A gn ln n kn sn dn mt mg ++ mI E A 3 K ++ mL E A 4 B ++ mI E A 11 SZ ++ mI E A 12 WH ++ mI E A 13 O2) 0 0 42 [(0, .ref m), (1, .int (iI (k : Int))), (2, .long (lI (b))), (4, .int (iI (p : Int)))] [] := by
            intro d2
            induction d2 with
            | zero => intro p b O2 hfu2 hp hI2 hf; omega
            | succ d2 ih2 =>
              intro p b O2 hfu2 hp hI2 hf
              have hbi := fbI_in hz h0 hp hf
              refine g_lload_n (pc := 42) hX 2 d_MD_findBinders_42 rfl rfl ?_
              refine g_lconst (pc := 43) hX 0 d_MD_findBinders_43 (by decide) ?_
              refine g_lcmp_lt (pc := 44) (tgt := 110) hX d_MD_findBinders_44 d_MD_findBinders_45 (by decide) (by omega) (by omega) (fun c_3 => ?_) (fun c_3 => ?_)
              · refine g_iinc (pc := 110) hX d_MD_findBinders_110 (by decide) rfl ?_
                refine g_goto (pc := 113) (tgt := 2) hX d_MD_findBinders_113 (by decide) ?_
                refine g_lv [(0, .ref m), (1, .int (iI ((k + 1 : Nat) : Int)))] ⟨rfl, rfl, trivial⟩ ?_
                exact ih1 (k + 1) O2 (by omega) (by omega) (fun j hj hj0 => by
                  by_cases e : j = k
                  · subst e; exact fbI_end hf (by omega) hj0
                  · exact hI2 j (by omega) hj0)
              · obtain ⟨f1, f2, f3⟩ := fbI_pos hf (by omega)
                have hp0 : 0 < p := by
                  rcases Nat.eq_zero_or_pos p with e | e
                  · exfalso; rw [e] at f2; have e9 : (env K 0).length = 0 := rfl
                    omega
                  · exact e
                obtain ⟨q, w1, w2, w3, w4, w5, w6⟩ := par_at hz h0 hm.2 hp0 hp
                have hkq := hkd q (by omega)
                have hsq := hm.1 (q + 1) w4
                obtain ⟨x1, x2⟩ := hO.en w4
                refine g_aload_n (pc := 48) hX 0 d_MD_findBinders_48 rfl rfl ?_
                refine g_get (pc := 49) hX f_MD_47 0 rfl rfl d_MD_findBinders_49 ?_
                refine g_iload (pc := 52) hX d_MD_findBinders_52 rfl ?_
                refine g_iadN (pc := 54) hX 4 (k := p) rfl (by omega) d_MD_findBinders_54 ?_
                rw [w1]
                refine g_istore (pc := 55) hX d_MD_findBinders_55 (by decide) ?_
                refine g_aload_n (pc := 57) hX 0 d_MD_findBinders_57 rfl rfl ?_
                refine g_get (pc := 58) hX f_MD_20 0 rfl rfl d_MD_findBinders_58 ?_
                refine g_iload (pc := 61) hX d_MD_findBinders_61 rfl ?_
                refine g_iadN (pc := 63) hX 1 (k := q) rfl (by omega) d_MD_findBinders_63 ?_
                refine g_iS (pc := 64) hX (c_MD_binds l E _ (by omega)) gy_MD_binds w_581 w_580 rfl (by decide) (by decide) [] rfl (by decide +kernel) _ rfl (Nat.le_of_ble_eq_true rfl) d_MD_findBinders_64 (by decide) (by decide) ?_
                refine g_beq (pc := 67) (tgt := 103) hX d_MD_findBinders_67 (by decide) (fun c_4 => ?_) (fun c_4 => ?_)
                · refine g_iload (pc := 103) hX d_MD_findBinders_103 rfl ?_
                  refine g_istore (pc := 105) hX d_MD_findBinders_105 (by decide) ?_
                  refine g_goto (pc := 107) (tgt := 42) hX d_MD_findBinders_107 (by decide) ?_
                  refine g_lv [(0, .ref m), (1, .int (iI (k : Int))), (2, .long (lI (b))), (4, .int (iI (q : Int)))] ⟨rfl, rfl, rfl, rfl, trivial⟩ ?_
                  exact ih2 q (b) O2 (by omega) (by omega) hI2 (fbI_up hf (by omega) (by
                    rcases w6 with h | h
                    · exact h.2.2
                    · rw [h.2]; unfold lastE; rw [if_neg c_4]))
                · refine g_iload (pc := 70) hX d_MD_findBinders_70 rfl ?_
                  refine g_aload_n (pc := 72) hX 0 d_MD_findBinders_72 rfl rfl ?_
                  refine g_iload (pc := 73) hX d_MD_findBinders_73 rfl ?_
                  refine g_iV (pc := 75) hX (c_MD_lastOf l E m A gn ln n kn sn dn mt mg SZ q (σ (q + 1)) hsq (by omega)) gy_MD_lastOf gv_MD_lastOf w_583 rfl (by decide) (by decide) [0, 3] rfl (by decide +kernel) rfl rfl rfl _ rfl (Nat.le_of_ble_eq_true rfl) d_MD_findBinders_75 (by decide) (by decide) ?_
                  refine g_icmp_ne (pc := 78) (tgt := 103) hX d_MD_findBinders_78 (by decide) (by omega) (by omega) (fun c_5 => ?_) (fun c_5 => ?_)
                  · refine g_iload (pc := 103) hX d_MD_findBinders_103 rfl ?_
                    refine g_istore (pc := 105) hX d_MD_findBinders_105 (by decide) ?_
                    refine g_goto (pc := 107) (tgt := 42) hX d_MD_findBinders_107 (by decide) ?_
                    refine g_lv [(0, .ref m), (1, .int (iI (k : Int))), (2, .long (lI (b))), (4, .int (iI (q : Int)))] ⟨rfl, rfl, rfl, rfl, trivial⟩ ?_
                    exact ih2 q (b) O2 (by omega) (by omega) hI2 (fbI_up hf (by omega) (by
                      rcases w6 with h | h
                      · exact h.2.2
                      · exact absurd h.1 (by omega)))
                  · have e7 : env K p = q :: env K q := by
                      rcases w6 with h | h
                      · exact absurd h.2.1 (by omega)
                      · rw [h.2]; unfold lastE; rw [if_pos c_4]
                    refine g_aload_n (pc := 81) hX 0 d_MD_findBinders_81 rfl rfl ?_
                    refine g_get (pc := 82) hX f_MD_50 0 rfl rfl d_MD_findBinders_82 ?_
                    refine g_iload_n (pc := 85) hX 1 d_MD_findBinders_85 rfl rfl ?_
                    refine g_lload_n (pc := 86) hX 2 d_MD_findBinders_86 rfl rfl ?_
                    refine g_lconst (pc := 87) hX 0 d_MD_findBinders_87 (by decide) ?_
                    refine g_lcmp_ne (pc := 88) (tgt := 97) hX d_MD_findBinders_88 d_MD_findBinders_89 (by decide) (by omega) (by omega) (fun c_6 => ?_) (fun c_6 => ?_)
                    · refine g_iconst (pc := 97) hX d_MD_findBinders_97 ?_
                      refine g_iasN (pc := 98) hX 5 (k := k) (x := (-1)) rfl (by omega) d_MD_findBinders_98 ?_
                      refine g_ws (mdO m A gn ln n kn sn dn mt mg ++ mI E A 3 K ++ mL E A 4 B ++ mI E A 11 SZ ++ mI E A 12 WH ++ mI E A 13 (uZ O2 k (-1))) rfl ?_
                      refine g_lload_n (pc := 99) hX 2 d_MD_findBinders_99 rfl rfl ?_
                      refine g_lconst (pc := 100) hX 1 d_MD_findBinders_100 (by decide) ?_
                      refine g_lsub (pc := 101) hX d_MD_findBinders_101 ?_
                      refine g_lstore_n (pc := 102) hX 2 d_MD_findBinders_102 rfl (by decide) ?_
                      refine g_iload (pc := 103) hX d_MD_findBinders_103 rfl ?_
                      refine g_istore (pc := 105) hX d_MD_findBinders_105 (by decide) ?_
                      refine g_goto (pc := 107) (tgt := 42) hX d_MD_findBinders_107 (by decide) ?_
                      refine g_lv [(0, .ref m), (1, .int (iI (k : Int))), (2, .long (lI (b - 1))), (4, .int (iI (q : Int)))] ⟨rfl, rfl, rfl, rfl, trivial⟩ ?_
                      exact ih2 q (b - 1) (uZ O2 k (-1)) (by omega) (by omega) (fun j hj hj0 => by rw [uZ_n (by omega)]; exact hI2 j hj hj0) (fbI_pass hf (by omega) (by omega) e7)
                    · refine g_iload (pc := 92) hX d_MD_findBinders_92 rfl ?_
                      refine g_goto (pc := 94) (tgt := 98) hX d_MD_findBinders_94 (by decide) ?_
                      refine g_iasN (pc := 98) hX 5 (k := k) (x := ((q : Nat) : Int)) rfl (by omega) d_MD_findBinders_98 ?_
                      refine g_ws (mdO m A gn ln n kn sn dn mt mg ++ mI E A 3 K ++ mL E A 4 B ++ mI E A 11 SZ ++ mI E A 12 WH ++ mI E A 13 (uZ O2 k ((q : Nat) : Int))) rfl ?_
                      refine g_lload_n (pc := 99) hX 2 d_MD_findBinders_99 rfl rfl ?_
                      refine g_lconst (pc := 100) hX 1 d_MD_findBinders_100 (by decide) ?_
                      refine g_lsub (pc := 101) hX d_MD_findBinders_101 ?_
                      refine g_lstore_n (pc := 102) hX 2 d_MD_findBinders_102 rfl (by decide) ?_
                      refine g_iload (pc := 103) hX d_MD_findBinders_103 rfl ?_
                      refine g_istore (pc := 105) hX d_MD_findBinders_105 (by decide) ?_
                      refine g_goto (pc := 107) (tgt := 42) hX d_MD_findBinders_107 (by decide) ?_
                      refine g_lv [(0, .ref m), (1, .int (iI (k : Int))), (2, .long (lI (b - 1))), (4, .int (iI (q : Int)))] ⟨rfl, rfl, rfl, rfl, trivial⟩ ?_
                      exact ih2 q (b - 1) (uZ O2 k ((q : Nat) : Int)) (by omega) (by omega) (fun j hj hj0 => by rw [uZ_n (by omega)]; exact hI2 j hj hj0) (fbI_hit hf (by omega) e7)
          refine g_lv [(0, .ref m), (1, .int (iI (k : Int))), (2, .long (lI (-1))), (4, .int (iI (k : Int)))] ⟨rfl, rfl, rfl, rfl, trivial⟩ ?_
          exact loop2 (k + 1) k (-1) (uZ O k (-1)) (by omega) (by omega) (fun j hj hj0 => by rw [uZ_n (by omega)]; exact hI j hj hj0) (Or.inr ⟨by omega, rfl⟩)
          
        · obtain ⟨hb1, hb2⟩ := hcl k (by omega) (by omega)
          have hek := env_le hz h0 (show k < n by omega)
          refine g_aload_n (pc := 26) hX 0 d_MD_findBinders_26 rfl rfl ?_
          refine g_get (pc := 27) hX f_MD_23 0 rfl rfl d_MD_findBinders_27 ?_
          refine g_iload_n (pc := 30) hX 1 d_MD_findBinders_30 rfl rfl ?_
          refine g_ladN (pc := 31) hX 2 (k := k) rfl (by omega) d_MD_findBinders_31 ?_
          refine g_goto (pc := 32) (tgt := 38) hX d_MD_findBinders_32 (by decide) ?_
          refine g_lstore_n (pc := 38) hX 2 d_MD_findBinders_38 rfl (by decide) ?_
          refine g_iload_n (pc := 39) hX 1 d_MD_findBinders_39 rfl rfl ?_
          refine g_istore (pc := 40) hX d_MD_findBinders_40 (by decide) ?_
          have loop2 : ∀ (d2 : Nat) (p : Nat) (b : Int) (O2 : Nat → Int), p < d2 → p < n → (∀ j, j < k → K j = 0 → O2 j = ((bOf K B j : Nat) : Int)) → fbI K O2 k p b (bOf K B k) → gW X (mdO m A gn ln n kn sn dn mt mg ++ mI E A 3 K ++ mL E A 4 B ++ mI E A 11 SZ ++ mI E A 12 WH ++ mI E A 13 O2) 0 0 42 [(0, .ref m), (1, .int (iI (k : Int))), (2, .long (lI (b))), (4, .int (iI (p : Int)))] [] := by
            intro d2
            induction d2 with
            | zero => intro p b O2 hfu2 hp hI2 hf; omega
            | succ d2 ih2 =>
              intro p b O2 hfu2 hp hI2 hf
              have hbi := fbI_in hz h0 hp hf
              refine g_lload_n (pc := 42) hX 2 d_MD_findBinders_42 rfl rfl ?_
              refine g_lconst (pc := 43) hX 0 d_MD_findBinders_43 (by decide) ?_
              refine g_lcmp_lt (pc := 44) (tgt := 110) hX d_MD_findBinders_44 d_MD_findBinders_45 (by decide) (by omega) (by omega) (fun c_7 => ?_) (fun c_7 => ?_)
              · refine g_iinc (pc := 110) hX d_MD_findBinders_110 (by decide) rfl ?_
                refine g_goto (pc := 113) (tgt := 2) hX d_MD_findBinders_113 (by decide) ?_
                refine g_lv [(0, .ref m), (1, .int (iI ((k + 1 : Nat) : Int)))] ⟨rfl, rfl, trivial⟩ ?_
                exact ih1 (k + 1) O2 (by omega) (by omega) (fun j hj hj0 => by
                  by_cases e : j = k
                  · subst e; exact fbI_end hf (by omega) hj0
                  · exact hI2 j (by omega) hj0)
              · obtain ⟨f1, f2, f3⟩ := fbI_pos hf (by omega)
                have hp0 : 0 < p := by
                  rcases Nat.eq_zero_or_pos p with e | e
                  · exfalso; rw [e] at f2; have e9 : (env K 0).length = 0 := rfl
                    omega
                  · exact e
                obtain ⟨q, w1, w2, w3, w4, w5, w6⟩ := par_at hz h0 hm.2 hp0 hp
                have hkq := hkd q (by omega)
                have hsq := hm.1 (q + 1) w4
                obtain ⟨x1, x2⟩ := hO.en w4
                refine g_aload_n (pc := 48) hX 0 d_MD_findBinders_48 rfl rfl ?_
                refine g_get (pc := 49) hX f_MD_47 0 rfl rfl d_MD_findBinders_49 ?_
                refine g_iload (pc := 52) hX d_MD_findBinders_52 rfl ?_
                refine g_iadN (pc := 54) hX 4 (k := p) rfl (by omega) d_MD_findBinders_54 ?_
                rw [w1]
                refine g_istore (pc := 55) hX d_MD_findBinders_55 (by decide) ?_
                refine g_aload_n (pc := 57) hX 0 d_MD_findBinders_57 rfl rfl ?_
                refine g_get (pc := 58) hX f_MD_20 0 rfl rfl d_MD_findBinders_58 ?_
                refine g_iload (pc := 61) hX d_MD_findBinders_61 rfl ?_
                refine g_iadN (pc := 63) hX 1 (k := q) rfl (by omega) d_MD_findBinders_63 ?_
                refine g_iS (pc := 64) hX (c_MD_binds l E _ (by omega)) gy_MD_binds w_581 w_580 rfl (by decide) (by decide) [] rfl (by decide +kernel) _ rfl (Nat.le_of_ble_eq_true rfl) d_MD_findBinders_64 (by decide) (by decide) ?_
                refine g_beq (pc := 67) (tgt := 103) hX d_MD_findBinders_67 (by decide) (fun c_8 => ?_) (fun c_8 => ?_)
                · refine g_iload (pc := 103) hX d_MD_findBinders_103 rfl ?_
                  refine g_istore (pc := 105) hX d_MD_findBinders_105 (by decide) ?_
                  refine g_goto (pc := 107) (tgt := 42) hX d_MD_findBinders_107 (by decide) ?_
                  refine g_lv [(0, .ref m), (1, .int (iI (k : Int))), (2, .long (lI (b))), (4, .int (iI (q : Int)))] ⟨rfl, rfl, rfl, rfl, trivial⟩ ?_
                  exact ih2 q (b) O2 (by omega) (by omega) hI2 (fbI_up hf (by omega) (by
                    rcases w6 with h | h
                    · exact h.2.2
                    · rw [h.2]; unfold lastE; rw [if_neg c_8]))
                · refine g_iload (pc := 70) hX d_MD_findBinders_70 rfl ?_
                  refine g_aload_n (pc := 72) hX 0 d_MD_findBinders_72 rfl rfl ?_
                  refine g_iload (pc := 73) hX d_MD_findBinders_73 rfl ?_
                  refine g_iV (pc := 75) hX (c_MD_lastOf l E m A gn ln n kn sn dn mt mg SZ q (σ (q + 1)) hsq (by omega)) gy_MD_lastOf gv_MD_lastOf w_583 rfl (by decide) (by decide) [0, 3] rfl (by decide +kernel) rfl rfl rfl _ rfl (Nat.le_of_ble_eq_true rfl) d_MD_findBinders_75 (by decide) (by decide) ?_
                  refine g_icmp_ne (pc := 78) (tgt := 103) hX d_MD_findBinders_78 (by decide) (by omega) (by omega) (fun c_9 => ?_) (fun c_9 => ?_)
                  · refine g_iload (pc := 103) hX d_MD_findBinders_103 rfl ?_
                    refine g_istore (pc := 105) hX d_MD_findBinders_105 (by decide) ?_
                    refine g_goto (pc := 107) (tgt := 42) hX d_MD_findBinders_107 (by decide) ?_
                    refine g_lv [(0, .ref m), (1, .int (iI (k : Int))), (2, .long (lI (b))), (4, .int (iI (q : Int)))] ⟨rfl, rfl, rfl, rfl, trivial⟩ ?_
                    exact ih2 q (b) O2 (by omega) (by omega) hI2 (fbI_up hf (by omega) (by
                      rcases w6 with h | h
                      · exact h.2.2
                      · exact absurd h.1 (by omega)))
                  · have e7 : env K p = q :: env K q := by
                      rcases w6 with h | h
                      · exact absurd h.2.1 (by omega)
                      · rw [h.2]; unfold lastE; rw [if_pos c_8]
                    refine g_aload_n (pc := 81) hX 0 d_MD_findBinders_81 rfl rfl ?_
                    refine g_get (pc := 82) hX f_MD_50 0 rfl rfl d_MD_findBinders_82 ?_
                    refine g_iload_n (pc := 85) hX 1 d_MD_findBinders_85 rfl rfl ?_
                    refine g_lload_n (pc := 86) hX 2 d_MD_findBinders_86 rfl rfl ?_
                    refine g_lconst (pc := 87) hX 0 d_MD_findBinders_87 (by decide) ?_
                    refine g_lcmp_ne (pc := 88) (tgt := 97) hX d_MD_findBinders_88 d_MD_findBinders_89 (by decide) (by omega) (by omega) (fun c_10 => ?_) (fun c_10 => ?_)
                    · refine g_iconst (pc := 97) hX d_MD_findBinders_97 ?_
                      refine g_iasN (pc := 98) hX 5 (k := k) (x := (-1)) rfl (by omega) d_MD_findBinders_98 ?_
                      refine g_ws (mdO m A gn ln n kn sn dn mt mg ++ mI E A 3 K ++ mL E A 4 B ++ mI E A 11 SZ ++ mI E A 12 WH ++ mI E A 13 (uZ O2 k (-1))) rfl ?_
                      refine g_lload_n (pc := 99) hX 2 d_MD_findBinders_99 rfl rfl ?_
                      refine g_lconst (pc := 100) hX 1 d_MD_findBinders_100 (by decide) ?_
                      refine g_lsub (pc := 101) hX d_MD_findBinders_101 ?_
                      refine g_lstore_n (pc := 102) hX 2 d_MD_findBinders_102 rfl (by decide) ?_
                      refine g_iload (pc := 103) hX d_MD_findBinders_103 rfl ?_
                      refine g_istore (pc := 105) hX d_MD_findBinders_105 (by decide) ?_
                      refine g_goto (pc := 107) (tgt := 42) hX d_MD_findBinders_107 (by decide) ?_
                      refine g_lv [(0, .ref m), (1, .int (iI (k : Int))), (2, .long (lI (b - 1))), (4, .int (iI (q : Int)))] ⟨rfl, rfl, rfl, rfl, trivial⟩ ?_
                      exact ih2 q (b - 1) (uZ O2 k (-1)) (by omega) (by omega) (fun j hj hj0 => by rw [uZ_n (by omega)]; exact hI2 j hj hj0) (fbI_pass hf (by omega) (by omega) e7)
                    · refine g_iload (pc := 92) hX d_MD_findBinders_92 rfl ?_
                      refine g_goto (pc := 94) (tgt := 98) hX d_MD_findBinders_94 (by decide) ?_
                      refine g_iasN (pc := 98) hX 5 (k := k) (x := ((q : Nat) : Int)) rfl (by omega) d_MD_findBinders_98 ?_
                      refine g_ws (mdO m A gn ln n kn sn dn mt mg ++ mI E A 3 K ++ mL E A 4 B ++ mI E A 11 SZ ++ mI E A 12 WH ++ mI E A 13 (uZ O2 k ((q : Nat) : Int))) rfl ?_
                      refine g_lload_n (pc := 99) hX 2 d_MD_findBinders_99 rfl rfl ?_
                      refine g_lconst (pc := 100) hX 1 d_MD_findBinders_100 (by decide) ?_
                      refine g_lsub (pc := 101) hX d_MD_findBinders_101 ?_
                      refine g_lstore_n (pc := 102) hX 2 d_MD_findBinders_102 rfl (by decide) ?_
                      refine g_iload (pc := 103) hX d_MD_findBinders_103 rfl ?_
                      refine g_istore (pc := 105) hX d_MD_findBinders_105 (by decide) ?_
                      refine g_goto (pc := 107) (tgt := 42) hX d_MD_findBinders_107 (by decide) ?_
                      refine g_lv [(0, .ref m), (1, .int (iI (k : Int))), (2, .long (lI (b - 1))), (4, .int (iI (q : Int)))] ⟨rfl, rfl, rfl, rfl, trivial⟩ ?_
                      exact ih2 q (b - 1) (uZ O2 k ((q : Nat) : Int)) (by omega) (by omega) (fun j hj hj0 => by rw [uZ_n (by omega)]; exact hI2 j hj hj0) (fbI_hit hf (by omega) e7)
          refine g_lv [(0, .ref m), (1, .int (iI (k : Int))), (2, .long (lI (B k))), (4, .int (iI (k : Int)))] ⟨rfl, rfl, rfl, rfl, trivial⟩ ?_
          exact loop2 (k + 1) k (B k) (uZ O k (-1)) (by omega) (by omega) (fun j hj hj0 => by rw [uZ_n (by omega)]; exact hI j hj hj0) (Or.inl ⟨by omega, Or.inr ⟨by omega, by omega, rfl⟩⟩)
          
  refine g_lv [(0, .ref m), (1, .int (iI ((0 : Nat) : Int)))] ⟨rfl, rfl, trivial⟩ ?_
  exact loop1 (n + 1) 0 BO (by omega) (by omega) (fun j hj => by omega)
  

abbrev rm_MD_catches : Room := { frames := 1, cells := 0, slots := 0, locals := 21 }
set_option maxHeartbeats 4000000 in
set_option maxRecDepth 100000 in
theorem c_MD_catches (l : Launch) (E : gE) (m : Nat) (A : Nat → Nat) (gn ln n kn sn dn : Nat) (mt mg : Int) (G K B SB SZ BO : Nat → Int) (k : Nat) (z : Int) (hz : gil z) (σ : Nat → Nat) (hO : oneS n K σ) (hs : ∀ j, j < n → SZ j = (σ j : Int)) (hcl : ∀ j, j < n → K j = 0 → 0 ≤ B j ∧ B j < ((env K j).length : Int)) (hc7 : ∀ j, j < n → K j = 7 → 0 ≤ B j ∧ B j < (gn : Int)) (hBO : ∀ j, j < n → K j = 0 → BO j = ((bOf K B j : Nat) : Int)) (hgn : gn ≤ 200) (hG : ∀ j, j < gn → gil (G j)) (hSB : ∀ j, j < k → gil (SB j)) (hk : k < n ∧ bP (K k)) : CtI l E y_MD_catches b_MD_catches 5 (some .boolean) rm_MD_catches [.ref m, .int (iI (k : Int)), .long (lI z)] (mdO m A gn ln n kn sn dn mt mg ++ mG E A G ++ mI E A 3 K ++ mL E A 4 B ++ mL E A 8 SB ++ mI E A 11 SZ ++ mI E A 13 BO) (bZ (ctc K B G SB k (k + 1 + σ (k + 1)) (k + σ k) z)) := by
  obtain ⟨hz, h0, hN, hN2, hkd⟩ := id hO
  obtain ⟨z1, z2, z3⟩ := hO.pt hk.1 (by omega)
  obtain ⟨y1, y2⟩ := hO.en z1
  obtain ⟨y3, y4⟩ := hO.en z2
  have hs1 := hs (k + 1) z1
  have hs2 := hs k hk.1
  refine g_start (by decide) (Nat.le_of_ble_eq_true rfl) (fun X hX hE hin => ?_)
  refine g_aload_n (pc := 0) hX 0 d_MD_catches_0 rfl rfl ?_
  refine g_iload_n (pc := 1) hX 1 d_MD_catches_1 rfl rfl ?_
  refine g_iV (pc := 2) hX (c_MD_lastOf l E m A gn ln n kn sn dn mt mg SZ k (σ (k + 1)) hs1 (by omega)) gy_MD_lastOf gv_MD_lastOf w_583 rfl (by decide) (by decide) [0, 5] rfl (by decide +kernel) rfl rfl rfl _ rfl (Nat.le_of_ble_eq_true rfl) d_MD_catches_2 (by decide) (by decide) ?_
  refine g_istore (pc := 5) hX d_MD_catches_5 (by decide) ?_
  have loop : ∀ (d : Nat) (i : Nat), σ (k + 1 + σ (k + 1)) < i + d → i ≤ σ (k + 1 + σ (k + 1)) → (∀ j, (k + 1 + σ (k + 1)) ≤ j → j < (k + 1 + σ (k + 1)) + i → ¬ ctj K B G SB k z j) → gW X (mdO m A gn ln n kn sn dn mt mg ++ mG E A G ++ mI E A 3 K ++ mL E A 4 B ++ mL E A 8 SB ++ mI E A 11 SZ ++ mI E A 13 BO) 0 0 7 [(0, .ref m), (1, .int (iI (k : Int))), (2, .long (lI z)), (4, .int (iI (((k + 1 + σ (k + 1)) + i : Nat) : Int)))] [] := by
    intro d
    induction d with
    | zero => intro i hfu hi hI; omega
    | succ d ih =>
      intro i hfu hi hI
      refine g_iload (pc := 7) hX d_MD_catches_7 rfl ?_
      refine g_iload_n (pc := 9) hX 1 d_MD_catches_9 rfl rfl ?_
      refine g_aload_n (pc := 10) hX 0 d_MD_catches_10 rfl rfl ?_
      refine g_get (pc := 11) hX f_MD_44 0 rfl rfl d_MD_catches_11 ?_
      refine g_iload_n (pc := 14) hX 1 d_MD_catches_14 rfl rfl ?_
      refine g_iadN (pc := 15) hX 5 (k := k) rfl (by omega) d_MD_catches_15 ?_
      rw [hs2]
      refine g_iadd (pc := 16) hX d_MD_catches_16 ?_
      refine g_icmp_ge (pc := 17) (tgt := 96) hX d_MD_catches_17 (by decide) (by omega) (by omega) (fun c_1 => ?_) (fun c_1 => ?_)
      · refine g_iconst (pc := 96) hX d_MD_catches_96 ?_
        exact g_zret (pc := 97) hX hE (by first | exact Or.inl rfl | exact Or.inr rfl | exact bZ_01 _) d_MD_catches_97 (by decide) (by decide) ⟨by rw [bZ_f (fun q => by obtain ⟨j, q1, q2, q3⟩ := q; exact hI j q1 (by omega) q3)], rfl, rfl, rfl⟩
      · have hKj := hkd ((k + 1 + σ (k + 1)) + i) (by omega)
        refine g_aload_n (pc := 20) hX 0 d_MD_catches_20 rfl rfl ?_
        refine g_get (pc := 21) hX f_MD_20 0 rfl rfl d_MD_catches_21 ?_
        refine g_iload (pc := 24) hX d_MD_catches_24 rfl ?_
        refine g_iadN (pc := 26) hX 2 (k := ((k + 1 + σ (k + 1)) + i)) rfl (by omega) d_MD_catches_26 ?_
        refine g_bipush (pc := 27) hX 7 d_MD_catches_27 (by decide) ?_
        refine g_icmp_ne (pc := 29) (tgt := 50) hX d_MD_catches_29 (by decide) (by omega) (by omega) (fun c_2 => ?_) (fun c_2 => ?_)
        · refine g_aload_n (pc := 50) hX 0 d_MD_catches_50 rfl rfl ?_
          refine g_get (pc := 51) hX f_MD_20 0 rfl rfl d_MD_catches_51 ?_
          refine g_iload (pc := 54) hX d_MD_catches_54 rfl ?_
          refine g_iadN (pc := 56) hX 2 (k := ((k + 1 + σ (k + 1)) + i)) rfl (by omega) d_MD_catches_56 ?_
          refine g_if_ne (pc := 57) (tgt := 90) hX d_MD_catches_57 (by decide) (by omega) (fun c_3 => ?_) (fun c_3 => ?_)
          · have hno : ¬ ctj K B G SB k z ((k + 1 + σ (k + 1)) + i) := by
              intro q
              rcases q with q | q
              · have q1 := q.1; have q2 := q.2
                first | omega | (rw [hgj] at q2; simp only [Int.toNat_natCast] at q2; omega)
              · obtain ⟨q1, q2, q3⟩ := q
                first | omega | (rw [← hR] at q2 q3; omega)
            refine g_iinc (pc := 90) hX d_MD_catches_90 (by decide) rfl ?_
            refine g_goto (pc := 93) (tgt := 7) hX d_MD_catches_93 (by decide) ?_
            refine g_lv [(0, .ref m), (1, .int (iI (k : Int))), (2, .long (lI z)), (4, .int (iI (((k + 1 + σ (k + 1)) + (i + 1) : Nat) : Int)))] ⟨rfl, rfl, rfl, rfl, trivial⟩ ?_
            exact ih (i + 1)  (by omega) (by omega) (fun j h1 h2 => by
              by_cases e : j = ((k + 1 + σ (k + 1)) + i)
              · rw [e]; exact hno
              · exact hI j h1 (by omega))
          · have hBj := hBO ((k + 1 + σ (k + 1)) + i) (by omega) (by omega)
            obtain ⟨hb1, hb2⟩ := hcl ((k + 1 + σ (k + 1)) + i) (by omega) (by omega)
            obtain ⟨R, hR⟩ : ∃ R : Nat, R = bOf K B ((k + 1 + σ (k + 1)) + i) := ⟨_, rfl⟩
            rw [← hR] at hBj
            have hRj : R < ((k + 1 + σ (k + 1)) + i) := by rw [hR]; exact (env_get hz h0 (show ((k + 1 + σ (k + 1)) + i) < n by omega) (i := (B ((k + 1 + σ (k + 1)) + i)).toNat) (by show _ < (env K ((k + 1 + σ (k + 1)) + i)).length; omega)).1
            refine g_aload_n (pc := 60) hX 0 d_MD_catches_60 rfl rfl ?_
            refine g_get (pc := 61) hX f_MD_50 0 rfl rfl d_MD_catches_61 ?_
            refine g_iload (pc := 64) hX d_MD_catches_64 rfl ?_
            refine g_iadN (pc := 66) hX 6 (k := ((k + 1 + σ (k + 1)) + i)) rfl (by omega) d_MD_catches_66 ?_
            rw [hBj]
            refine g_iload_n (pc := 67) hX 1 d_MD_catches_67 rfl rfl ?_
            refine g_icmp_ge (pc := 68) (tgt := 90) hX d_MD_catches_68 (by decide) (by omega) (by omega) (fun c_4 => ?_) (fun c_4 => ?_)
            · have hno : ¬ ctj K B G SB k z ((k + 1 + σ (k + 1)) + i) := by
                intro q
                rcases q with q | q
                · have q1 := q.1; have q2 := q.2
                  first | omega | (rw [hgj] at q2; simp only [Int.toNat_natCast] at q2; omega)
                · obtain ⟨q1, q2, q3⟩ := q
                  first | omega | (rw [← hR] at q2 q3; omega)
              refine g_iinc (pc := 90) hX d_MD_catches_90 (by decide) rfl ?_
              refine g_goto (pc := 93) (tgt := 7) hX d_MD_catches_93 (by decide) ?_
              refine g_lv [(0, .ref m), (1, .int (iI (k : Int))), (2, .long (lI z)), (4, .int (iI (((k + 1 + σ (k + 1)) + (i + 1) : Nat) : Int)))] ⟨rfl, rfl, rfl, rfl, trivial⟩ ?_
              exact ih (i + 1)  (by omega) (by omega) (fun j h1 h2 => by
                by_cases e : j = ((k + 1 + σ (k + 1)) + i)
                · rw [e]; exact hno
                · exact hI j h1 (by omega))
            · have hSj := hSB R (by omega)
              refine g_aload_n (pc := 71) hX 0 d_MD_catches_71 rfl rfl ?_
              refine g_get (pc := 72) hX f_MD_35 0 rfl rfl d_MD_catches_72 ?_
              refine g_aload_n (pc := 75) hX 0 d_MD_catches_75 rfl rfl ?_
              refine g_get (pc := 76) hX f_MD_50 0 rfl rfl d_MD_catches_76 ?_
              refine g_iload (pc := 79) hX d_MD_catches_79 rfl ?_
              refine g_iadN (pc := 81) hX 6 (k := ((k + 1 + σ (k + 1)) + i)) rfl (by omega) d_MD_catches_81 ?_
              rw [hBj]
              refine g_ladN (pc := 82) hX 4 (k := R) rfl (by omega) d_MD_catches_82 ?_
              refine g_lload_n (pc := 83) hX 2 d_MD_catches_83 rfl rfl ?_
              refine g_lcmp_ne (pc := 84) (tgt := 90) hX d_MD_catches_84 d_MD_catches_85 (by decide) (by omega) (by omega) (fun c_5 => ?_) (fun c_5 => ?_)
              · have hno : ¬ ctj K B G SB k z ((k + 1 + σ (k + 1)) + i) := by
                  intro q
                  rcases q with q | q
                  · have q1 := q.1; have q2 := q.2
                    first | omega | (rw [hgj] at q2; simp only [Int.toNat_natCast] at q2; omega)
                  · obtain ⟨q1, q2, q3⟩ := q
                    first | omega | (rw [← hR] at q2 q3; omega)
                refine g_iinc (pc := 90) hX d_MD_catches_90 (by decide) rfl ?_
                refine g_goto (pc := 93) (tgt := 7) hX d_MD_catches_93 (by decide) ?_
                refine g_lv [(0, .ref m), (1, .int (iI (k : Int))), (2, .long (lI z)), (4, .int (iI (((k + 1 + σ (k + 1)) + (i + 1) : Nat) : Int)))] ⟨rfl, rfl, rfl, rfl, trivial⟩ ?_
                exact ih (i + 1)  (by omega) (by omega) (fun j h1 h2 => by
                  by_cases e : j = ((k + 1 + σ (k + 1)) + i)
                  · rw [e]; exact hno
                  · exact hI j h1 (by omega))
              · have hyes : ctj K B G SB k z ((k + 1 + σ (k + 1)) + i) := by
                  first
                  | exact Or.inl ⟨by omega, by rw [hgj]; simp only [Int.toNat_natCast]; omega⟩
                  | exact Or.inr ⟨by omega, by rw [← hR]; omega, by rw [← hR]; omega⟩
                refine g_iconst (pc := 88) hX d_MD_catches_88 ?_
                exact g_zret (pc := 89) hX hE (by first | exact Or.inl rfl | exact Or.inr rfl | exact bZ_01 _) d_MD_catches_89 (by decide) (by decide) ⟨by rw [bZ_t ⟨((k + 1 + σ (k + 1)) + i), by omega, by omega, hyes⟩], rfl, rfl, rfl⟩
        · obtain ⟨hb1, hb2⟩ := hc7 ((k + 1 + σ (k + 1)) + i) (by omega) (by omega)
          obtain ⟨gj, hgj⟩ : ∃ gj : Nat, B ((k + 1 + σ (k + 1)) + i) = (gj : Int) := ⟨(B ((k + 1 + σ (k + 1)) + i)).toNat, by omega⟩
          have hGj := hG gj (by omega)
          refine g_aload_n (pc := 32) hX 0 d_MD_catches_32 rfl rfl ?_
          refine g_get (pc := 33) hX f_MD_7 0 rfl rfl d_MD_catches_33 ?_
          refine g_aload_n (pc := 36) hX 0 d_MD_catches_36 rfl rfl ?_
          refine g_get (pc := 37) hX f_MD_23 0 rfl rfl d_MD_catches_37 ?_
          refine g_iload (pc := 40) hX d_MD_catches_40 rfl ?_
          refine g_ladN (pc := 42) hX 3 (k := ((k + 1 + σ (k + 1)) + i)) rfl (by omega) d_MD_catches_42 ?_
          refine g_l2i (pc := 43) hX d_MD_catches_43 ?_
          rw [hgj]
          refine g_ladN (pc := 44) hX 1 (k := gj) rfl (by omega) d_MD_catches_44 ?_
          refine g_lload_n (pc := 45) hX 2 d_MD_catches_45 rfl rfl ?_
          refine g_lcmp_eq (pc := 46) (tgt := 88) hX d_MD_catches_46 d_MD_catches_47 (by decide) (by omega) (by omega) (fun c_6 => ?_) (fun c_6 => ?_)
          · have hyes : ctj K B G SB k z ((k + 1 + σ (k + 1)) + i) := by
              first
              | exact Or.inl ⟨by omega, by rw [hgj]; simp only [Int.toNat_natCast]; omega⟩
              | exact Or.inr ⟨by omega, by rw [← hR]; omega, by rw [← hR]; omega⟩
            refine g_iconst (pc := 88) hX d_MD_catches_88 ?_
            exact g_zret (pc := 89) hX hE (by first | exact Or.inl rfl | exact Or.inr rfl | exact bZ_01 _) d_MD_catches_89 (by decide) (by decide) ⟨by rw [bZ_t ⟨((k + 1 + σ (k + 1)) + i), by omega, by omega, hyes⟩], rfl, rfl, rfl⟩
          · refine g_aload_n (pc := 50) hX 0 d_MD_catches_50 rfl rfl ?_
            refine g_get (pc := 51) hX f_MD_20 0 rfl rfl d_MD_catches_51 ?_
            refine g_iload (pc := 54) hX d_MD_catches_54 rfl ?_
            refine g_iadN (pc := 56) hX 2 (k := ((k + 1 + σ (k + 1)) + i)) rfl (by omega) d_MD_catches_56 ?_
            refine g_if_ne (pc := 57) (tgt := 90) hX d_MD_catches_57 (by decide) (by omega) (fun c_7 => ?_) (fun c_7 => ?_)
            · have hno : ¬ ctj K B G SB k z ((k + 1 + σ (k + 1)) + i) := by
                intro q
                rcases q with q | q
                · have q1 := q.1; have q2 := q.2
                  first | omega | (rw [hgj] at q2; simp only [Int.toNat_natCast] at q2; omega)
                · obtain ⟨q1, q2, q3⟩ := q
                  first | omega | (rw [← hR] at q2 q3; omega)
              refine g_iinc (pc := 90) hX d_MD_catches_90 (by decide) rfl ?_
              refine g_goto (pc := 93) (tgt := 7) hX d_MD_catches_93 (by decide) ?_
              refine g_lv [(0, .ref m), (1, .int (iI (k : Int))), (2, .long (lI z)), (4, .int (iI (((k + 1 + σ (k + 1)) + (i + 1) : Nat) : Int)))] ⟨rfl, rfl, rfl, rfl, trivial⟩ ?_
              exact ih (i + 1)  (by omega) (by omega) (fun j h1 h2 => by
                by_cases e : j = ((k + 1 + σ (k + 1)) + i)
                · rw [e]; exact hno
                · exact hI j h1 (by omega))
            · have hBj := hBO ((k + 1 + σ (k + 1)) + i) (by omega) (by omega)
              obtain ⟨hb1, hb2⟩ := hcl ((k + 1 + σ (k + 1)) + i) (by omega) (by omega)
              obtain ⟨R, hR⟩ : ∃ R : Nat, R = bOf K B ((k + 1 + σ (k + 1)) + i) := ⟨_, rfl⟩
              rw [← hR] at hBj
              have hRj : R < ((k + 1 + σ (k + 1)) + i) := by rw [hR]; exact (env_get hz h0 (show ((k + 1 + σ (k + 1)) + i) < n by omega) (i := (B ((k + 1 + σ (k + 1)) + i)).toNat) (by show _ < (env K ((k + 1 + σ (k + 1)) + i)).length; omega)).1
              refine g_aload_n (pc := 60) hX 0 d_MD_catches_60 rfl rfl ?_
              refine g_get (pc := 61) hX f_MD_50 0 rfl rfl d_MD_catches_61 ?_
              refine g_iload (pc := 64) hX d_MD_catches_64 rfl ?_
              refine g_iadN (pc := 66) hX 6 (k := ((k + 1 + σ (k + 1)) + i)) rfl (by omega) d_MD_catches_66 ?_
              rw [hBj]
              refine g_iload_n (pc := 67) hX 1 d_MD_catches_67 rfl rfl ?_
              refine g_icmp_ge (pc := 68) (tgt := 90) hX d_MD_catches_68 (by decide) (by omega) (by omega) (fun c_8 => ?_) (fun c_8 => ?_)
              · have hno : ¬ ctj K B G SB k z ((k + 1 + σ (k + 1)) + i) := by
                  intro q
                  rcases q with q | q
                  · have q1 := q.1; have q2 := q.2
                    first | omega | (rw [hgj] at q2; simp only [Int.toNat_natCast] at q2; omega)
                  · obtain ⟨q1, q2, q3⟩ := q
                    first | omega | (rw [← hR] at q2 q3; omega)
                refine g_iinc (pc := 90) hX d_MD_catches_90 (by decide) rfl ?_
                refine g_goto (pc := 93) (tgt := 7) hX d_MD_catches_93 (by decide) ?_
                refine g_lv [(0, .ref m), (1, .int (iI (k : Int))), (2, .long (lI z)), (4, .int (iI (((k + 1 + σ (k + 1)) + (i + 1) : Nat) : Int)))] ⟨rfl, rfl, rfl, rfl, trivial⟩ ?_
                exact ih (i + 1)  (by omega) (by omega) (fun j h1 h2 => by
                  by_cases e : j = ((k + 1 + σ (k + 1)) + i)
                  · rw [e]; exact hno
                  · exact hI j h1 (by omega))
              · have hSj := hSB R (by omega)
                refine g_aload_n (pc := 71) hX 0 d_MD_catches_71 rfl rfl ?_
                refine g_get (pc := 72) hX f_MD_35 0 rfl rfl d_MD_catches_72 ?_
                refine g_aload_n (pc := 75) hX 0 d_MD_catches_75 rfl rfl ?_
                refine g_get (pc := 76) hX f_MD_50 0 rfl rfl d_MD_catches_76 ?_
                refine g_iload (pc := 79) hX d_MD_catches_79 rfl ?_
                refine g_iadN (pc := 81) hX 6 (k := ((k + 1 + σ (k + 1)) + i)) rfl (by omega) d_MD_catches_81 ?_
                rw [hBj]
                refine g_ladN (pc := 82) hX 4 (k := R) rfl (by omega) d_MD_catches_82 ?_
                refine g_lload_n (pc := 83) hX 2 d_MD_catches_83 rfl rfl ?_
                refine g_lcmp_ne (pc := 84) (tgt := 90) hX d_MD_catches_84 d_MD_catches_85 (by decide) (by omega) (by omega) (fun c_9 => ?_) (fun c_9 => ?_)
                · have hno : ¬ ctj K B G SB k z ((k + 1 + σ (k + 1)) + i) := by
                    intro q
                    rcases q with q | q
                    · have q1 := q.1; have q2 := q.2
                      first | omega | (rw [hgj] at q2; simp only [Int.toNat_natCast] at q2; omega)
                    · obtain ⟨q1, q2, q3⟩ := q
                      first | omega | (rw [← hR] at q2 q3; omega)
                  refine g_iinc (pc := 90) hX d_MD_catches_90 (by decide) rfl ?_
                  refine g_goto (pc := 93) (tgt := 7) hX d_MD_catches_93 (by decide) ?_
                  refine g_lv [(0, .ref m), (1, .int (iI (k : Int))), (2, .long (lI z)), (4, .int (iI (((k + 1 + σ (k + 1)) + (i + 1) : Nat) : Int)))] ⟨rfl, rfl, rfl, rfl, trivial⟩ ?_
                  exact ih (i + 1)  (by omega) (by omega) (fun j h1 h2 => by
                    by_cases e : j = ((k + 1 + σ (k + 1)) + i)
                    · rw [e]; exact hno
                    · exact hI j h1 (by omega))
                · have hyes : ctj K B G SB k z ((k + 1 + σ (k + 1)) + i) := by
                    first
                    | exact Or.inl ⟨by omega, by rw [hgj]; simp only [Int.toNat_natCast]; omega⟩
                    | exact Or.inr ⟨by omega, by rw [← hR]; omega, by rw [← hR]; omega⟩
                  refine g_iconst (pc := 88) hX d_MD_catches_88 ?_
                  exact g_zret (pc := 89) hX hE (by first | exact Or.inl rfl | exact Or.inr rfl | exact bZ_01 _) d_MD_catches_89 (by decide) (by decide) ⟨by rw [bZ_t ⟨((k + 1 + σ (k + 1)) + i), by omega, by omega, hyes⟩], rfl, rfl, rfl⟩
  refine g_lv [(0, .ref m), (1, .int (iI (k : Int))), (2, .long (lI z)), (4, .int (iI (((k + 1 + σ (k + 1)) + 0 : Nat) : Int)))] ⟨rfl, rfl, rfl, rfl, trivial⟩ ?_
  exact loop (σ (k + 1 + σ (k + 1)) + 1) 0  (by omega) (by omega) (fun j h1 h2 => by omega)
  
