abbrev rm_NM_isDigit : Room := { frames := 0, cells := 0, slots := 0, locals := 0 }
set_option maxHeartbeats 4000000 in
set_option maxRecDepth 100000 in
theorem c_NM_isDigit (l : Launch) (E : gE) (z : Int) (hz : gil z) : CtI l E y_NM_isDigit b_NM_isDigit 2 (some .boolean) rm_NM_isDigit [.long (lI z)] ([]) (bZ (48 ≤ z ∧ z ≤ 57)) := by
  refine g_start (by decide) (Nat.le_of_ble_eq_true rfl) (fun X hX hE hin => ?_)
  refine g_lload_n (pc := 0) hX 0 d_NM_isDigit_0 rfl rfl ?_
  refine g_ldc2 (pc := 1) hX 48 w_138 (by decide) d_NM_isDigit_1 ?_
  refine g_lcmp_lt (pc := 4) (tgt := 20) hX d_NM_isDigit_4 d_NM_isDigit_5 (by decide) (by omega) (by omega) (fun c_1 => ?_) (fun c_1 => ?_)
  · refine g_iconst (pc := 20) hX d_NM_isDigit_20 ?_
    exact g_zret (pc := 21) hX hE (by first | exact Or.inl rfl | exact Or.inr rfl | exact bZ_01 _) d_NM_isDigit_21 (by decide) (by decide) ⟨by rw [bZ_f (by omega)], rfl, rfl, rfl⟩
  · refine g_lload_n (pc := 8) hX 0 d_NM_isDigit_8 rfl rfl ?_
    refine g_ldc2 (pc := 9) hX 57 w_139 (by decide) d_NM_isDigit_9 ?_
    refine g_lcmp_gt (pc := 12) (tgt := 20) hX d_NM_isDigit_12 d_NM_isDigit_13 (by decide) (by omega) (by omega) (fun c_2 => ?_) (fun c_2 => ?_)
    · refine g_iconst (pc := 20) hX d_NM_isDigit_20 ?_
      exact g_zret (pc := 21) hX hE (by first | exact Or.inl rfl | exact Or.inr rfl | exact bZ_01 _) d_NM_isDigit_21 (by decide) (by decide) ⟨by rw [bZ_f (by omega)], rfl, rfl, rfl⟩
    · refine g_iconst (pc := 16) hX d_NM_isDigit_16 ?_
      refine g_goto (pc := 17) (tgt := 21) hX d_NM_isDigit_17 (by decide) ?_
      exact g_zret (pc := 21) hX hE (by first | exact Or.inl rfl | exact Or.inr rfl | exact bZ_01 _) d_NM_isDigit_21 (by decide) (by decide) ⟨by rw [bZ_t (by omega)], rfl, rfl, rfl⟩

abbrev rm_NM_canBeGiven : Room := { frames := 1, cells := 0, slots := 0, locals := 21 }
set_option maxHeartbeats 4000000 in
set_option maxRecDepth 100000 in
theorem c_NM_canBeGiven (l : Launch) (E : gE) (z : Int) (hz : gil z) : CtI l E y_NM_canBeGiven b_NM_canBeGiven 9 (some .boolean) rm_NM_canBeGiven [.long (lI z)] ([]) (bZ (okName z)) := by
  refine g_start (by decide) (Nat.le_of_ble_eq_true rfl) (fun X hX hE hin => ?_)
  refine g_lload_n (pc := 0) hX 0 d_NM_canBeGiven_0 rfl rfl ?_
  refine g_lconst (pc := 1) hX 0 d_NM_canBeGiven_1 (by decide) ?_
  refine g_lcmp_le (pc := 2) (tgt := 15) hX d_NM_canBeGiven_2 d_NM_canBeGiven_3 (by decide) (by omega) (by omega) (fun c_1 => ?_) (fun c_1 => ?_)
  · refine g_iconst (pc := 15) hX d_NM_canBeGiven_15 ?_
    exact g_zret (pc := 16) hX hE (by first | exact Or.inl rfl | exact Or.inr rfl | exact bZ_01 _) d_NM_canBeGiven_16 (by decide) (by decide) ⟨by rw [bZ_f (fun q => by have := q.1; have := q.2.1; omega)], rfl, rfl, rfl⟩
  · refine g_lload_n (pc := 6) hX 0 d_NM_canBeGiven_6 rfl rfl ?_
    refine g_bipush (pc := 7) hX 32 d_NM_canBeGiven_7 (by decide) ?_
    refine g_lushr (pc := 9) hX (z / 4294967296) d_NM_canBeGiven_9 (lI_ush32 (by omega) (by omega)) ?_
    refine g_lconst (pc := 10) hX 0 d_NM_canBeGiven_10 (by decide) ?_
    refine g_lcmp_eq (pc := 11) (tgt := 17) hX d_NM_canBeGiven_11 d_NM_canBeGiven_12 (by decide) (by omega) (by omega) (fun c_2 => ?_) (fun c_2 => ?_)
    · refine g_lload_n (pc := 17) hX 0 d_NM_canBeGiven_17 rfl rfl ?_
      refine g_lstore_n (pc := 18) hX 2 d_NM_canBeGiven_18 rfl (by decide) ?_
      refine g_iconst (pc := 19) hX d_NM_canBeGiven_19 ?_
      refine g_istore (pc := 20) hX d_NM_canBeGiven_20 (by decide) ?_
      have loop : ∀ (d : Nat) (k : Nat) (r i : Int), k < d → i = 4 - (k : Int) → k ≤ 4 → 0 ≤ r → r < 4294967296 → (cbg k r ↔ okName z) → gW X ([]) 0 0 22 [(0, .long (lI z)), (2, .long (lI (r))), (4, .int (iI (i)))] [] := by
        intro d
        induction d with
        | zero => intro k r i hfu hi hk h0 h1 hc; omega
        | succ d ih =>
          intro k r i hfu hi hk h0 h1 hc
          refine g_iload (pc := 22) hX d_NM_canBeGiven_22 rfl ?_
          refine g_iconst (pc := 24) hX d_NM_canBeGiven_24 ?_
          refine g_icmp_ge (pc := 25) (tgt := 111) hX d_NM_canBeGiven_25 (by decide) (by omega) (by omega) (fun c_3 => ?_) (fun c_3 => ?_)
          · refine g_iconst (pc := 111) hX d_NM_canBeGiven_111 ?_
            exact g_zret (pc := 112) hX hE (by first | exact Or.inl rfl | exact Or.inr rfl | exact bZ_01 _) d_NM_canBeGiven_112 (by decide) (by decide) ⟨by rw [bZ_t (by first | exact hc.mp (Or.inl (by omega)) | (have e : k = 0 := (by omega); subst e; exact hc.mp trivial))], rfl, rfl, rfl⟩
          · obtain ⟨k, rfl⟩ : ∃ k2, k = k2 + 1 := ⟨k - 1, by omega⟩
            refine g_lload_n (pc := 28) hX 2 d_NM_canBeGiven_28 rfl rfl ?_
            refine g_lconst (pc := 29) hX 0 d_NM_canBeGiven_29 (by decide) ?_
            refine g_lcmp_eq (pc := 30) (tgt := 111) hX d_NM_canBeGiven_30 d_NM_canBeGiven_31 (by decide) (by omega) (by omega) (fun c_4 => ?_) (fun c_4 => ?_)
            · refine g_iconst (pc := 111) hX d_NM_canBeGiven_111 ?_
              exact g_zret (pc := 112) hX hE (by first | exact Or.inl rfl | exact Or.inr rfl | exact bZ_01 _) d_NM_canBeGiven_112 (by decide) (by decide) ⟨by rw [bZ_t (by first | exact hc.mp (Or.inl (by omega)) | (have e : k = 0 := (by omega); subst e; exact hc.mp trivial))], rfl, rfl, rfl⟩
            · refine g_lload_n (pc := 34) hX 2 d_NM_canBeGiven_34 rfl rfl ?_
              refine g_ldc2 (pc := 35) hX 255 w_132 (by decide) d_NM_canBeGiven_35 ?_
              refine g_land (pc := 38) hX (r % 256) d_NM_canBeGiven_38 (lI_255 r) ?_
              refine g_lstore (pc := 39) hX d_NM_canBeGiven_39 (by decide) ?_
              refine g_lload_n (pc := 41) hX 2 d_NM_canBeGiven_41 rfl rfl ?_
              refine g_lload (pc := 42) hX d_NM_canBeGiven_42 rfl ?_
              refine g_lcmp_ne (pc := 44) (tgt := 52) hX d_NM_canBeGiven_44 d_NM_canBeGiven_45 (by decide) (by omega) (by omega) (fun c_5 => ?_) (fun c_5 => ?_)
              · refine g_iconst (pc := 52) hX d_NM_canBeGiven_52 ?_
                refine g_istore (pc := 53) hX d_NM_canBeGiven_53 (by decide) ?_
                refine g_lload (pc := 55) hX d_NM_canBeGiven_55 rfl ?_
                refine g_ldc2 (pc := 57) hX 97 w_133 (by decide) d_NM_canBeGiven_57 ?_
                refine g_lcmp_lt (pc := 60) (tgt := 77) hX d_NM_canBeGiven_60 d_NM_canBeGiven_61 (by decide) (by omega) (by omega) (fun c_6 => ?_) (fun c_6 => ?_)
                · refine g_iconst (pc := 77) hX d_NM_canBeGiven_77 ?_
                  refine g_istore (pc := 78) hX d_NM_canBeGiven_78 (by decide) ?_
                  refine g_iload (pc := 80) hX d_NM_canBeGiven_80 rfl ?_
                  refine g_if_ne (pc := 82) (tgt := 100) hX d_NM_canBeGiven_82 (by decide) (by decide) (fun c_7 => ?_) (fun c_7 => ?_)
                  · exact absurd c_7 (by decide)
                  · refine g_iload (pc := 85) hX d_NM_canBeGiven_85 rfl ?_
                    refine g_if_ne (pc := 87) (tgt := 98) hX d_NM_canBeGiven_87 (by decide) (by decide) (fun c_8 => ?_) (fun c_8 => ?_)
                    · exact absurd c_8 (by decide)
                    · refine g_lload (pc := 90) hX d_NM_canBeGiven_90 rfl ?_
                      refine g_iS (pc := 92) hX (c_NM_isDigit l E _ (by omega)) gy_NM_isDigit w_136 w_135 rfl (by decide) (by decide) [] rfl rfl _ rfl (Nat.le_of_ble_eq_true rfl) d_NM_canBeGiven_92 (by decide) (by decide) ?_
                      refine g_bne (pc := 95) (tgt := 100) hX d_NM_canBeGiven_95 (by decide) (fun c_9 => ?_) (fun c_9 => ?_)
                      · refine g_lload_n (pc := 100) hX 2 d_NM_canBeGiven_100 rfl rfl ?_
                        refine g_bipush (pc := 101) hX 8 d_NM_canBeGiven_101 (by decide) ?_
                        refine g_lushr (pc := 103) hX (r / 256) d_NM_canBeGiven_103 (lI_ush8 (by omega) (by omega)) ?_
                        refine g_lstore_n (pc := 104) hX 2 d_NM_canBeGiven_104 rfl (by decide) ?_
                        refine g_iinc (pc := 105) hX d_NM_canBeGiven_105 (by decide) rfl ?_
                        refine g_goto (pc := 108) (tgt := 22) hX d_NM_canBeGiven_108 (by decide) ?_
                        refine g_lv [(0, .long (lI z)), (2, .long (lI (r / 256))), (4, .int (iI (i + 1)))] ⟨rfl, rfl, rfl, trivial⟩ ?_
                        exact ih k (r / 256) (i + 1) (by omega) (by omega) (by omega) (by omega) (by omega) (by rw [← hc, cbg_s (by omega) (by omega)])
                      · refine g_iconst (pc := 98) hX d_NM_canBeGiven_98 ?_
                        exact g_zret (pc := 99) hX hE (by first | exact Or.inl rfl | exact Or.inr rfl | exact bZ_01 _) d_NM_canBeGiven_99 (by decide) (by decide) ⟨by rw [bZ_f (fun q => (show r = 0 ∨ (bOK r ∧ cbg k (r / 256)) from hc.mpr q).elim (fun e => absurd e (by omega)) (fun e => absurd e.1 (by omega)))], rfl, rfl, rfl⟩
                · refine g_lload (pc := 64) hX d_NM_canBeGiven_64 rfl ?_
                  refine g_ldc2 (pc := 66) hX 122 w_134 (by decide) d_NM_canBeGiven_66 ?_
                  refine g_lcmp_gt (pc := 69) (tgt := 77) hX d_NM_canBeGiven_69 d_NM_canBeGiven_70 (by decide) (by omega) (by omega) (fun c_10 => ?_) (fun c_10 => ?_)
                  · refine g_iconst (pc := 77) hX d_NM_canBeGiven_77 ?_
                    refine g_istore (pc := 78) hX d_NM_canBeGiven_78 (by decide) ?_
                    refine g_iload (pc := 80) hX d_NM_canBeGiven_80 rfl ?_
                    refine g_if_ne (pc := 82) (tgt := 100) hX d_NM_canBeGiven_82 (by decide) (by decide) (fun c_11 => ?_) (fun c_11 => ?_)
                    · exact absurd c_11 (by decide)
                    · refine g_iload (pc := 85) hX d_NM_canBeGiven_85 rfl ?_
                      refine g_if_ne (pc := 87) (tgt := 98) hX d_NM_canBeGiven_87 (by decide) (by decide) (fun c_12 => ?_) (fun c_12 => ?_)
                      · exact absurd c_12 (by decide)
                      · refine g_lload (pc := 90) hX d_NM_canBeGiven_90 rfl ?_
                        refine g_iS (pc := 92) hX (c_NM_isDigit l E _ (by omega)) gy_NM_isDigit w_136 w_135 rfl (by decide) (by decide) [] rfl rfl _ rfl (Nat.le_of_ble_eq_true rfl) d_NM_canBeGiven_92 (by decide) (by decide) ?_
                        refine g_bne (pc := 95) (tgt := 100) hX d_NM_canBeGiven_95 (by decide) (fun c_13 => ?_) (fun c_13 => ?_)
                        · refine g_lload_n (pc := 100) hX 2 d_NM_canBeGiven_100 rfl rfl ?_
                          refine g_bipush (pc := 101) hX 8 d_NM_canBeGiven_101 (by decide) ?_
                          refine g_lushr (pc := 103) hX (r / 256) d_NM_canBeGiven_103 (lI_ush8 (by omega) (by omega)) ?_
                          refine g_lstore_n (pc := 104) hX 2 d_NM_canBeGiven_104 rfl (by decide) ?_
                          refine g_iinc (pc := 105) hX d_NM_canBeGiven_105 (by decide) rfl ?_
                          refine g_goto (pc := 108) (tgt := 22) hX d_NM_canBeGiven_108 (by decide) ?_
                          refine g_lv [(0, .long (lI z)), (2, .long (lI (r / 256))), (4, .int (iI (i + 1)))] ⟨rfl, rfl, rfl, trivial⟩ ?_
                          exact ih k (r / 256) (i + 1) (by omega) (by omega) (by omega) (by omega) (by omega) (by rw [← hc, cbg_s (by omega) (by omega)])
                        · refine g_iconst (pc := 98) hX d_NM_canBeGiven_98 ?_
                          exact g_zret (pc := 99) hX hE (by first | exact Or.inl rfl | exact Or.inr rfl | exact bZ_01 _) d_NM_canBeGiven_99 (by decide) (by decide) ⟨by rw [bZ_f (fun q => (show r = 0 ∨ (bOK r ∧ cbg k (r / 256)) from hc.mpr q).elim (fun e => absurd e (by omega)) (fun e => absurd e.1 (by omega)))], rfl, rfl, rfl⟩
                  · refine g_iconst (pc := 73) hX d_NM_canBeGiven_73 ?_
                    refine g_goto (pc := 74) (tgt := 78) hX d_NM_canBeGiven_74 (by decide) ?_
                    refine g_istore (pc := 78) hX d_NM_canBeGiven_78 (by decide) ?_
                    refine g_iload (pc := 80) hX d_NM_canBeGiven_80 rfl ?_
                    refine g_if_ne (pc := 82) (tgt := 100) hX d_NM_canBeGiven_82 (by decide) (by decide) (fun c_14 => ?_) (fun c_14 => ?_)
                    · refine g_lload_n (pc := 100) hX 2 d_NM_canBeGiven_100 rfl rfl ?_
                      refine g_bipush (pc := 101) hX 8 d_NM_canBeGiven_101 (by decide) ?_
                      refine g_lushr (pc := 103) hX (r / 256) d_NM_canBeGiven_103 (lI_ush8 (by omega) (by omega)) ?_
                      refine g_lstore_n (pc := 104) hX 2 d_NM_canBeGiven_104 rfl (by decide) ?_
                      refine g_iinc (pc := 105) hX d_NM_canBeGiven_105 (by decide) rfl ?_
                      refine g_goto (pc := 108) (tgt := 22) hX d_NM_canBeGiven_108 (by decide) ?_
                      refine g_lv [(0, .long (lI z)), (2, .long (lI (r / 256))), (4, .int (iI (i + 1)))] ⟨rfl, rfl, rfl, trivial⟩ ?_
                      exact ih k (r / 256) (i + 1) (by omega) (by omega) (by omega) (by omega) (by omega) (by rw [← hc, cbg_s (by omega) (by omega)])
                    · exact absurd (by decide) c_14
              · refine g_iconst (pc := 48) hX d_NM_canBeGiven_48 ?_
                refine g_goto (pc := 49) (tgt := 53) hX d_NM_canBeGiven_49 (by decide) ?_
                refine g_istore (pc := 53) hX d_NM_canBeGiven_53 (by decide) ?_
                refine g_lload (pc := 55) hX d_NM_canBeGiven_55 rfl ?_
                refine g_ldc2 (pc := 57) hX 97 w_133 (by decide) d_NM_canBeGiven_57 ?_
                refine g_lcmp_lt (pc := 60) (tgt := 77) hX d_NM_canBeGiven_60 d_NM_canBeGiven_61 (by decide) (by omega) (by omega) (fun c_15 => ?_) (fun c_15 => ?_)
                · refine g_iconst (pc := 77) hX d_NM_canBeGiven_77 ?_
                  refine g_istore (pc := 78) hX d_NM_canBeGiven_78 (by decide) ?_
                  refine g_iload (pc := 80) hX d_NM_canBeGiven_80 rfl ?_
                  refine g_if_ne (pc := 82) (tgt := 100) hX d_NM_canBeGiven_82 (by decide) (by decide) (fun c_16 => ?_) (fun c_16 => ?_)
                  · exact absurd c_16 (by decide)
                  · refine g_iload (pc := 85) hX d_NM_canBeGiven_85 rfl ?_
                    refine g_if_ne (pc := 87) (tgt := 98) hX d_NM_canBeGiven_87 (by decide) (by decide) (fun c_17 => ?_) (fun c_17 => ?_)
                    · refine g_iconst (pc := 98) hX d_NM_canBeGiven_98 ?_
                      exact g_zret (pc := 99) hX hE (by first | exact Or.inl rfl | exact Or.inr rfl | exact bZ_01 _) d_NM_canBeGiven_99 (by decide) (by decide) ⟨by rw [bZ_f (fun q => (show r = 0 ∨ (bOK r ∧ cbg k (r / 256)) from hc.mpr q).elim (fun e => absurd e (by omega)) (fun e => absurd e.1 (by omega)))], rfl, rfl, rfl⟩
                    · exact absurd (by decide) c_17
                · refine g_lload (pc := 64) hX d_NM_canBeGiven_64 rfl ?_
                  refine g_ldc2 (pc := 66) hX 122 w_134 (by decide) d_NM_canBeGiven_66 ?_
                  refine g_lcmp_gt (pc := 69) (tgt := 77) hX d_NM_canBeGiven_69 d_NM_canBeGiven_70 (by decide) (by omega) (by omega) (fun c_18 => ?_) (fun c_18 => ?_)
                  · refine g_iconst (pc := 77) hX d_NM_canBeGiven_77 ?_
                    refine g_istore (pc := 78) hX d_NM_canBeGiven_78 (by decide) ?_
                    refine g_iload (pc := 80) hX d_NM_canBeGiven_80 rfl ?_
                    refine g_if_ne (pc := 82) (tgt := 100) hX d_NM_canBeGiven_82 (by decide) (by decide) (fun c_19 => ?_) (fun c_19 => ?_)
                    · exact absurd c_19 (by decide)
                    · refine g_iload (pc := 85) hX d_NM_canBeGiven_85 rfl ?_
                      refine g_if_ne (pc := 87) (tgt := 98) hX d_NM_canBeGiven_87 (by decide) (by decide) (fun c_20 => ?_) (fun c_20 => ?_)
                      · refine g_iconst (pc := 98) hX d_NM_canBeGiven_98 ?_
                        exact g_zret (pc := 99) hX hE (by first | exact Or.inl rfl | exact Or.inr rfl | exact bZ_01 _) d_NM_canBeGiven_99 (by decide) (by decide) ⟨by rw [bZ_f (fun q => (show r = 0 ∨ (bOK r ∧ cbg k (r / 256)) from hc.mpr q).elim (fun e => absurd e (by omega)) (fun e => absurd e.1 (by omega)))], rfl, rfl, rfl⟩
                      · exact absurd (by decide) c_20
                  · refine g_iconst (pc := 73) hX d_NM_canBeGiven_73 ?_
                    refine g_goto (pc := 74) (tgt := 78) hX d_NM_canBeGiven_74 (by decide) ?_
                    refine g_istore (pc := 78) hX d_NM_canBeGiven_78 (by decide) ?_
                    refine g_iload (pc := 80) hX d_NM_canBeGiven_80 rfl ?_
                    refine g_if_ne (pc := 82) (tgt := 100) hX d_NM_canBeGiven_82 (by decide) (by decide) (fun c_21 => ?_) (fun c_21 => ?_)
                    · refine g_lload_n (pc := 100) hX 2 d_NM_canBeGiven_100 rfl rfl ?_
                      refine g_bipush (pc := 101) hX 8 d_NM_canBeGiven_101 (by decide) ?_
                      refine g_lushr (pc := 103) hX (r / 256) d_NM_canBeGiven_103 (lI_ush8 (by omega) (by omega)) ?_
                      refine g_lstore_n (pc := 104) hX 2 d_NM_canBeGiven_104 rfl (by decide) ?_
                      refine g_iinc (pc := 105) hX d_NM_canBeGiven_105 (by decide) rfl ?_
                      refine g_goto (pc := 108) (tgt := 22) hX d_NM_canBeGiven_108 (by decide) ?_
                      refine g_lv [(0, .long (lI z)), (2, .long (lI (r / 256))), (4, .int (iI (i + 1)))] ⟨rfl, rfl, rfl, trivial⟩ ?_
                      exact ih k (r / 256) (i + 1) (by omega) (by omega) (by omega) (by omega) (by omega) (by rw [← hc, cbg_s (by omega) (by omega)])
                    · exact absurd (by decide) c_21
      refine g_lv [(0, .long (lI z)), (2, .long (lI (z))), (4, .int (iI (0)))] ⟨rfl, rfl, rfl, trivial⟩ ?_
      exact loop 5 4 z 0 (by omega) (by omega) (by omega) (by omega) (by omega) (by unfold okName; exact ⟨fun q => ⟨by omega, by omega, q⟩, fun q => q.2.2⟩)
      
    · refine g_iconst (pc := 15) hX d_NM_canBeGiven_15 ?_
      exact g_zret (pc := 16) hX hE (by first | exact Or.inl rfl | exact Or.inr rfl | exact bZ_01 _) d_NM_canBeGiven_16 (by decide) (by decide) ⟨by rw [bZ_f (fun q => by have := q.1; have := q.2.1; omega)], rfl, rfl, rfl⟩

abbrev rm_NM_firstFour : Room := { frames := 0, cells := 0, slots := 0, locals := 0 }
set_option maxHeartbeats 4000000 in
set_option maxRecDepth 100000 in
theorem c_NM_firstFour (l : Launch) (E : gE) (z : Int) (hz : gil z) (h0 : 0 ≤ z) : CtL l E y_NM_firstFour b_NM_firstFour 5 (some .long) rm_NM_firstFour [.long (lI z)] ([]) (f4 z) := by
  refine g_start (by decide) (Nat.le_of_ble_eq_true rfl) (fun X hX hE hin => ?_)
  refine g_lload_n (pc := 0) hX 0 d_NM_firstFour_0 rfl rfl ?_
  refine g_lstore_n (pc := 1) hX 2 d_NM_firstFour_1 rfl (by decide) ?_
  refine g_iconst (pc := 2) hX d_NM_firstFour_2 ?_
  refine g_istore (pc := 3) hX d_NM_firstFour_3 (by decide) ?_
  refine g_iload (pc := 5) hX d_NM_firstFour_5 rfl ?_
  refine g_bipush (pc := 7) hX 8 d_NM_firstFour_7 (by decide) ?_
  refine g_icmp_ge (pc := 9) (tgt := 32) hX d_NM_firstFour_9 (by decide) (by decide) (by decide) (fun c_1 => ?_) (fun c_1 => ?_)
  · exact absurd c_1 (by decide)
  · refine g_lload_n (pc := 12) hX 2 d_NM_firstFour_12 rfl rfl ?_
    refine g_bipush (pc := 13) hX 32 d_NM_firstFour_13 (by decide) ?_
    refine g_lushr (pc := 15) hX (z / 4294967296) d_NM_firstFour_15 (lI_ush32 (by omega) (by omega)) ?_
    refine g_lconst (pc := 16) hX 0 d_NM_firstFour_16 (by decide) ?_
    refine g_lcmp_eq (pc := 17) (tgt := 32) hX d_NM_firstFour_17 d_NM_firstFour_18 (by decide) (by omega) (by omega) (fun c_2 => ?_) (fun c_2 => ?_)
    · refine g_lload_n (pc := 32) hX 2 d_NM_firstFour_32 rfl rfl ?_
      exact g_lret (pc := 33) hX hE d_NM_firstFour_33 (by decide) (by decide) ⟨by unfold f4; rw [if_pos (by omega)], rfl, rfl, rfl⟩
    · refine g_lload_n (pc := 21) hX 2 d_NM_firstFour_21 rfl rfl ?_
      refine g_bipush (pc := 22) hX 8 d_NM_firstFour_22 (by decide) ?_
      refine g_lushr (pc := 24) hX (z / 256) d_NM_firstFour_24 (by rw [lI_ush8 (by omega) (by omega)] <;> (try congr 1) <;> (try omega)) ?_
      refine g_lstore_n (pc := 25) hX 2 d_NM_firstFour_25 rfl (by decide) ?_
      refine g_iinc (pc := 26) hX d_NM_firstFour_26 (by decide) rfl ?_
      refine g_goto (pc := 29) (tgt := 5) hX d_NM_firstFour_29 (by decide) ?_
      refine g_iload (pc := 5) hX d_NM_firstFour_5 rfl ?_
      refine g_bipush (pc := 7) hX 8 d_NM_firstFour_7 (by decide) ?_
      refine g_icmp_ge (pc := 9) (tgt := 32) hX d_NM_firstFour_9 (by decide) (by decide) (by decide) (fun c_3 => ?_) (fun c_3 => ?_)
      · exact absurd c_3 (by decide)
      · refine g_lload_n (pc := 12) hX 2 d_NM_firstFour_12 rfl rfl ?_
        refine g_bipush (pc := 13) hX 32 d_NM_firstFour_13 (by decide) ?_
        refine g_lushr (pc := 15) hX (z / 256 / 4294967296) d_NM_firstFour_15 (lI_ush32 (by omega) (by omega)) ?_
        refine g_lconst (pc := 16) hX 0 d_NM_firstFour_16 (by decide) ?_
        refine g_lcmp_eq (pc := 17) (tgt := 32) hX d_NM_firstFour_17 d_NM_firstFour_18 (by decide) (by omega) (by omega) (fun c_4 => ?_) (fun c_4 => ?_)
        · refine g_lload_n (pc := 32) hX 2 d_NM_firstFour_32 rfl rfl ?_
          exact g_lret (pc := 33) hX hE d_NM_firstFour_33 (by decide) (by decide) ⟨by unfold f4; rw [if_neg (by omega), if_pos (by omega)], rfl, rfl, rfl⟩
        · refine g_lload_n (pc := 21) hX 2 d_NM_firstFour_21 rfl rfl ?_
          refine g_bipush (pc := 22) hX 8 d_NM_firstFour_22 (by decide) ?_
          refine g_lushr (pc := 24) hX (z / 65536) d_NM_firstFour_24 (by rw [lI_ush8 (by omega) (by omega)] <;> (try congr 1) <;> (try omega)) ?_
          refine g_lstore_n (pc := 25) hX 2 d_NM_firstFour_25 rfl (by decide) ?_
          refine g_iinc (pc := 26) hX d_NM_firstFour_26 (by decide) rfl ?_
          refine g_goto (pc := 29) (tgt := 5) hX d_NM_firstFour_29 (by decide) ?_
          refine g_iload (pc := 5) hX d_NM_firstFour_5 rfl ?_
          refine g_bipush (pc := 7) hX 8 d_NM_firstFour_7 (by decide) ?_
          refine g_icmp_ge (pc := 9) (tgt := 32) hX d_NM_firstFour_9 (by decide) (by decide) (by decide) (fun c_5 => ?_) (fun c_5 => ?_)
          · exact absurd c_5 (by decide)
          · refine g_lload_n (pc := 12) hX 2 d_NM_firstFour_12 rfl rfl ?_
            refine g_bipush (pc := 13) hX 32 d_NM_firstFour_13 (by decide) ?_
            refine g_lushr (pc := 15) hX (z / 65536 / 4294967296) d_NM_firstFour_15 (lI_ush32 (by omega) (by omega)) ?_
            refine g_lconst (pc := 16) hX 0 d_NM_firstFour_16 (by decide) ?_
            refine g_lcmp_eq (pc := 17) (tgt := 32) hX d_NM_firstFour_17 d_NM_firstFour_18 (by decide) (by omega) (by omega) (fun c_6 => ?_) (fun c_6 => ?_)
            · refine g_lload_n (pc := 32) hX 2 d_NM_firstFour_32 rfl rfl ?_
              exact g_lret (pc := 33) hX hE d_NM_firstFour_33 (by decide) (by decide) ⟨by unfold f4; rw [if_neg (by omega), if_neg (by omega), if_pos (by omega)], rfl, rfl, rfl⟩
            · refine g_lload_n (pc := 21) hX 2 d_NM_firstFour_21 rfl rfl ?_
              refine g_bipush (pc := 22) hX 8 d_NM_firstFour_22 (by decide) ?_
              refine g_lushr (pc := 24) hX (z / 16777216) d_NM_firstFour_24 (by rw [lI_ush8 (by omega) (by omega)] <;> (try congr 1) <;> (try omega)) ?_
              refine g_lstore_n (pc := 25) hX 2 d_NM_firstFour_25 rfl (by decide) ?_
              refine g_iinc (pc := 26) hX d_NM_firstFour_26 (by decide) rfl ?_
              refine g_goto (pc := 29) (tgt := 5) hX d_NM_firstFour_29 (by decide) ?_
              refine g_iload (pc := 5) hX d_NM_firstFour_5 rfl ?_
              refine g_bipush (pc := 7) hX 8 d_NM_firstFour_7 (by decide) ?_
              refine g_icmp_ge (pc := 9) (tgt := 32) hX d_NM_firstFour_9 (by decide) (by decide) (by decide) (fun c_7 => ?_) (fun c_7 => ?_)
              · exact absurd c_7 (by decide)
              · refine g_lload_n (pc := 12) hX 2 d_NM_firstFour_12 rfl rfl ?_
                refine g_bipush (pc := 13) hX 32 d_NM_firstFour_13 (by decide) ?_
                refine g_lushr (pc := 15) hX (z / 16777216 / 4294967296) d_NM_firstFour_15 (lI_ush32 (by omega) (by omega)) ?_
                refine g_lconst (pc := 16) hX 0 d_NM_firstFour_16 (by decide) ?_
                refine g_lcmp_eq (pc := 17) (tgt := 32) hX d_NM_firstFour_17 d_NM_firstFour_18 (by decide) (by omega) (by omega) (fun c_8 => ?_) (fun c_8 => ?_)
                · refine g_lload_n (pc := 32) hX 2 d_NM_firstFour_32 rfl rfl ?_
                  exact g_lret (pc := 33) hX hE d_NM_firstFour_33 (by decide) (by decide) ⟨by unfold f4; rw [if_neg (by omega), if_neg (by omega), if_neg (by omega), if_pos (by omega)], rfl, rfl, rfl⟩
                · refine g_lload_n (pc := 21) hX 2 d_NM_firstFour_21 rfl rfl ?_
                  refine g_bipush (pc := 22) hX 8 d_NM_firstFour_22 (by decide) ?_
                  refine g_lushr (pc := 24) hX (z / 4294967296) d_NM_firstFour_24 (by rw [lI_ush8 (by omega) (by omega)] <;> (try congr 1) <;> (try omega)) ?_
                  refine g_lstore_n (pc := 25) hX 2 d_NM_firstFour_25 rfl (by decide) ?_
                  refine g_iinc (pc := 26) hX d_NM_firstFour_26 (by decide) rfl ?_
                  refine g_goto (pc := 29) (tgt := 5) hX d_NM_firstFour_29 (by decide) ?_
                  refine g_iload (pc := 5) hX d_NM_firstFour_5 rfl ?_
                  refine g_bipush (pc := 7) hX 8 d_NM_firstFour_7 (by decide) ?_
                  refine g_icmp_ge (pc := 9) (tgt := 32) hX d_NM_firstFour_9 (by decide) (by decide) (by decide) (fun c_9 => ?_) (fun c_9 => ?_)
                  · refine g_lload_n (pc := 32) hX 2 d_NM_firstFour_32 rfl rfl ?_
                    exact g_lret (pc := 33) hX hE d_NM_firstFour_33 (by decide) (by decide) ⟨by unfold f4; rw [if_neg (by omega), if_neg (by omega), if_neg (by omega), if_neg (by omega)], rfl, rfl, rfl⟩
                  · exact absurd (by decide) c_9

abbrev rm_NM_numbered : Room := { frames := 0, cells := 0, slots := 0, locals := 0 }
set_option maxHeartbeats 4000000 in
set_option maxRecDepth 100000 in
theorem c_NM_numbered (l : Launch) (E : gE) (z : Int) (hz : gil z) (m : Int) (hm : gin m) (h0 : 0 ≤ z ∧ z < 4294967296 ∧ 0 ≤ m ∧ m ≤ 9999) : CtL l E y_NM_numbered b_NM_numbered 6 (some .long) rm_NM_numbered [.long (lI z), .int (iI m)] ([]) (nmb z m) := by
  refine g_start (by decide) (Nat.le_of_ble_eq_true rfl) (fun X hX hE hin => ?_)
  refine g_lload_n (pc := 0) hX 0 d_NM_numbered_0 rfl rfl ?_
  refine g_lstore_n (pc := 1) hX 3 d_NM_numbered_1 rfl (by decide) ?_
  refine g_sipush (pc := 2) hX 1000 d_NM_numbered_2 (by decide) ?_
  refine g_istore (pc := 5) hX d_NM_numbered_5 (by decide) ?_
  refine g_iload (pc := 7) hX d_NM_numbered_7 rfl ?_
  refine g_if_le (pc := 9) (tgt := 45) hX d_NM_numbered_9 (by decide) (by decide) (fun c_1 => ?_) (fun c_1 => ?_)
  · exact absurd c_1 (by decide)
  · refine g_iload_n (pc := 12) hX 2 d_NM_numbered_12 rfl rfl ?_
    refine g_iload (pc := 13) hX d_NM_numbered_13 rfl ?_
    refine g_icmp_lt (pc := 15) (tgt := 35) hX d_NM_numbered_15 (by decide) (by omega) (by omega) (fun c_2 => ?_) (fun c_2 => ?_)
    · refine g_iload (pc := 35) hX d_NM_numbered_35 rfl ?_
      refine g_bipush (pc := 37) hX 10 d_NM_numbered_37 (by decide) ?_
      refine g_idiv (pc := 39) hX (100) d_NM_numbered_39 (by decide) (by decide) ?_
      refine g_istore (pc := 40) hX d_NM_numbered_40 (by decide) ?_
      refine g_goto (pc := 42) (tgt := 7) hX d_NM_numbered_42 (by decide) ?_
      refine g_iload (pc := 7) hX d_NM_numbered_7 rfl ?_
      refine g_if_le (pc := 9) (tgt := 45) hX d_NM_numbered_9 (by decide) (by decide) (fun c_3 => ?_) (fun c_3 => ?_)
      · exact absurd c_3 (by decide)
      · refine g_iload_n (pc := 12) hX 2 d_NM_numbered_12 rfl rfl ?_
        refine g_iload (pc := 13) hX d_NM_numbered_13 rfl ?_
        refine g_icmp_lt (pc := 15) (tgt := 35) hX d_NM_numbered_15 (by decide) (by omega) (by omega) (fun c_4 => ?_) (fun c_4 => ?_)
        · refine g_iload (pc := 35) hX d_NM_numbered_35 rfl ?_
          refine g_bipush (pc := 37) hX 10 d_NM_numbered_37 (by decide) ?_
          refine g_idiv (pc := 39) hX (10) d_NM_numbered_39 (by decide) (by decide) ?_
          refine g_istore (pc := 40) hX d_NM_numbered_40 (by decide) ?_
          refine g_goto (pc := 42) (tgt := 7) hX d_NM_numbered_42 (by decide) ?_
          refine g_iload (pc := 7) hX d_NM_numbered_7 rfl ?_
          refine g_if_le (pc := 9) (tgt := 45) hX d_NM_numbered_9 (by decide) (by decide) (fun c_5 => ?_) (fun c_5 => ?_)
          · exact absurd c_5 (by decide)
          · refine g_iload_n (pc := 12) hX 2 d_NM_numbered_12 rfl rfl ?_
            refine g_iload (pc := 13) hX d_NM_numbered_13 rfl ?_
            refine g_icmp_lt (pc := 15) (tgt := 35) hX d_NM_numbered_15 (by decide) (by omega) (by omega) (fun c_6 => ?_) (fun c_6 => ?_)
            · refine g_iload (pc := 35) hX d_NM_numbered_35 rfl ?_
              refine g_bipush (pc := 37) hX 10 d_NM_numbered_37 (by decide) ?_
              refine g_idiv (pc := 39) hX (1) d_NM_numbered_39 (by decide) (by decide) ?_
              refine g_istore (pc := 40) hX d_NM_numbered_40 (by decide) ?_
              refine g_goto (pc := 42) (tgt := 7) hX d_NM_numbered_42 (by decide) ?_
              refine g_iload (pc := 7) hX d_NM_numbered_7 rfl ?_
              refine g_if_le (pc := 9) (tgt := 45) hX d_NM_numbered_9 (by decide) (by decide) (fun c_7 => ?_) (fun c_7 => ?_)
              · exact absurd c_7 (by decide)
              · refine g_iload_n (pc := 12) hX 2 d_NM_numbered_12 rfl rfl ?_
                refine g_iload (pc := 13) hX d_NM_numbered_13 rfl ?_
                refine g_icmp_lt (pc := 15) (tgt := 35) hX d_NM_numbered_15 (by decide) (by omega) (by omega) (fun c_8 => ?_) (fun c_8 => ?_)
                · refine g_iload (pc := 35) hX d_NM_numbered_35 rfl ?_
                  refine g_bipush (pc := 37) hX 10 d_NM_numbered_37 (by decide) ?_
                  refine g_idiv (pc := 39) hX (0) d_NM_numbered_39 (by decide) (by decide) ?_
                  refine g_istore (pc := 40) hX d_NM_numbered_40 (by decide) ?_
                  refine g_goto (pc := 42) (tgt := 7) hX d_NM_numbered_42 (by decide) ?_
                  refine g_iload (pc := 7) hX d_NM_numbered_7 rfl ?_
                  refine g_if_le (pc := 9) (tgt := 45) hX d_NM_numbered_9 (by decide) (by decide) (fun c_9 => ?_) (fun c_9 => ?_)
                  · refine g_lload_n (pc := 45) hX 3 d_NM_numbered_45 rfl rfl ?_
                    exact g_lret (pc := 46) hX hE d_NM_numbered_46 (by decide) (by decide) ⟨by unfold nmb nst; rw [if_neg (show ¬ ((1000 : Int) ≤ m) by omega), if_neg (show ¬ ((100 : Int) ≤ m) by omega), if_neg (show ¬ ((10 : Int) ≤ m) by omega), if_neg (show ¬ ((1 : Int) ≤ m) by omega)], rfl, rfl, rfl⟩
                  · exact absurd (by decide) c_9
                · refine g_lload_n (pc := 18) hX 3 d_NM_numbered_18 rfl rfl ?_
                  refine g_bipush (pc := 19) hX 8 d_NM_numbered_19 (by decide) ?_
                  refine g_lshl (pc := 21) hX (z * 256) d_NM_numbered_21 (lI_shl8 _) ?_
                  refine g_bipush (pc := 22) hX 48 d_NM_numbered_22 (by decide) ?_
                  refine g_iload_n (pc := 24) hX 2 d_NM_numbered_24 rfl rfl ?_
                  refine g_iload (pc := 25) hX d_NM_numbered_25 rfl ?_
                  refine g_idiv (pc := 27) hX (m / 1) d_NM_numbered_27 (by decide) (iI_div (a := m) (b := 1) (by omega) (by omega) (by omega) (by omega)) ?_
                  refine g_bipush (pc := 28) hX 10 d_NM_numbered_28 (by decide) ?_
                  refine g_irem (pc := 30) hX (m / 1 % 10) d_NM_numbered_30 (by decide) (iI_rem (a := m / 1) (b := 10) (by omega) (by omega) (by omega) (by omega)) ?_
                  refine g_iadd (pc := 31) hX d_NM_numbered_31 ?_
                  refine g_i2l (pc := 32) hX d_NM_numbered_32 (by omega) ?_
                  refine g_lor (pc := 33) hX ((z * 256 + (48 + m / 1 % 10))) d_NM_numbered_33 (lI_or8 (by omega) (by omega)) ?_
                  refine g_lstore_n (pc := 34) hX 3 d_NM_numbered_34 rfl (by decide) ?_
                  refine g_iload (pc := 35) hX d_NM_numbered_35 rfl ?_
                  refine g_bipush (pc := 37) hX 10 d_NM_numbered_37 (by decide) ?_
                  refine g_idiv (pc := 39) hX (0) d_NM_numbered_39 (by decide) (by decide) ?_
                  refine g_istore (pc := 40) hX d_NM_numbered_40 (by decide) ?_
                  refine g_goto (pc := 42) (tgt := 7) hX d_NM_numbered_42 (by decide) ?_
                  refine g_iload (pc := 7) hX d_NM_numbered_7 rfl ?_
                  refine g_if_le (pc := 9) (tgt := 45) hX d_NM_numbered_9 (by decide) (by decide) (fun c_10 => ?_) (fun c_10 => ?_)
                  · refine g_lload_n (pc := 45) hX 3 d_NM_numbered_45 rfl rfl ?_
                    exact g_lret (pc := 46) hX hE d_NM_numbered_46 (by decide) (by decide) ⟨by unfold nmb nst; rw [if_neg (show ¬ ((1000 : Int) ≤ m) by omega), if_neg (show ¬ ((100 : Int) ≤ m) by omega), if_neg (show ¬ ((10 : Int) ≤ m) by omega), if_pos (show ((1 : Int) ≤ m) by omega)], rfl, rfl, rfl⟩
                  · exact absurd (by decide) c_10
            · refine g_lload_n (pc := 18) hX 3 d_NM_numbered_18 rfl rfl ?_
              refine g_bipush (pc := 19) hX 8 d_NM_numbered_19 (by decide) ?_
              refine g_lshl (pc := 21) hX (z * 256) d_NM_numbered_21 (lI_shl8 _) ?_
              refine g_bipush (pc := 22) hX 48 d_NM_numbered_22 (by decide) ?_
              refine g_iload_n (pc := 24) hX 2 d_NM_numbered_24 rfl rfl ?_
              refine g_iload (pc := 25) hX d_NM_numbered_25 rfl ?_
              refine g_idiv (pc := 27) hX (m / 10) d_NM_numbered_27 (by decide) (iI_div (a := m) (b := 10) (by omega) (by omega) (by omega) (by omega)) ?_
              refine g_bipush (pc := 28) hX 10 d_NM_numbered_28 (by decide) ?_
              refine g_irem (pc := 30) hX (m / 10 % 10) d_NM_numbered_30 (by decide) (iI_rem (a := m / 10) (b := 10) (by omega) (by omega) (by omega) (by omega)) ?_
              refine g_iadd (pc := 31) hX d_NM_numbered_31 ?_
              refine g_i2l (pc := 32) hX d_NM_numbered_32 (by omega) ?_
              refine g_lor (pc := 33) hX ((z * 256 + (48 + m / 10 % 10))) d_NM_numbered_33 (lI_or8 (by omega) (by omega)) ?_
              refine g_lstore_n (pc := 34) hX 3 d_NM_numbered_34 rfl (by decide) ?_
              refine g_iload (pc := 35) hX d_NM_numbered_35 rfl ?_
              refine g_bipush (pc := 37) hX 10 d_NM_numbered_37 (by decide) ?_
              refine g_idiv (pc := 39) hX (1) d_NM_numbered_39 (by decide) (by decide) ?_
              refine g_istore (pc := 40) hX d_NM_numbered_40 (by decide) ?_
              refine g_goto (pc := 42) (tgt := 7) hX d_NM_numbered_42 (by decide) ?_
              refine g_iload (pc := 7) hX d_NM_numbered_7 rfl ?_
              refine g_if_le (pc := 9) (tgt := 45) hX d_NM_numbered_9 (by decide) (by decide) (fun c_11 => ?_) (fun c_11 => ?_)
              · exact absurd c_11 (by decide)
              · refine g_iload_n (pc := 12) hX 2 d_NM_numbered_12 rfl rfl ?_
                refine g_iload (pc := 13) hX d_NM_numbered_13 rfl ?_
                refine g_icmp_lt (pc := 15) (tgt := 35) hX d_NM_numbered_15 (by decide) (by omega) (by omega) (fun c_12 => ?_) (fun c_12 => ?_)
                · exact absurd c_12 (by omega)
                · refine g_lload_n (pc := 18) hX 3 d_NM_numbered_18 rfl rfl ?_
                  refine g_bipush (pc := 19) hX 8 d_NM_numbered_19 (by decide) ?_
                  refine g_lshl (pc := 21) hX ((z * 256 + (48 + m / 10 % 10)) * 256) d_NM_numbered_21 (lI_shl8 _) ?_
                  refine g_bipush (pc := 22) hX 48 d_NM_numbered_22 (by decide) ?_
                  refine g_iload_n (pc := 24) hX 2 d_NM_numbered_24 rfl rfl ?_
                  refine g_iload (pc := 25) hX d_NM_numbered_25 rfl ?_
                  refine g_idiv (pc := 27) hX (m / 1) d_NM_numbered_27 (by decide) (iI_div (a := m) (b := 1) (by omega) (by omega) (by omega) (by omega)) ?_
                  refine g_bipush (pc := 28) hX 10 d_NM_numbered_28 (by decide) ?_
                  refine g_irem (pc := 30) hX (m / 1 % 10) d_NM_numbered_30 (by decide) (iI_rem (a := m / 1) (b := 10) (by omega) (by omega) (by omega) (by omega)) ?_
                  refine g_iadd (pc := 31) hX d_NM_numbered_31 ?_
                  refine g_i2l (pc := 32) hX d_NM_numbered_32 (by omega) ?_
                  refine g_lor (pc := 33) hX (((z * 256 + (48 + m / 10 % 10)) * 256 + (48 + m / 1 % 10))) d_NM_numbered_33 (lI_or8 (by omega) (by omega)) ?_
                  refine g_lstore_n (pc := 34) hX 3 d_NM_numbered_34 rfl (by decide) ?_
                  refine g_iload (pc := 35) hX d_NM_numbered_35 rfl ?_
                  refine g_bipush (pc := 37) hX 10 d_NM_numbered_37 (by decide) ?_
                  refine g_idiv (pc := 39) hX (0) d_NM_numbered_39 (by decide) (by decide) ?_
                  refine g_istore (pc := 40) hX d_NM_numbered_40 (by decide) ?_
                  refine g_goto (pc := 42) (tgt := 7) hX d_NM_numbered_42 (by decide) ?_
                  refine g_iload (pc := 7) hX d_NM_numbered_7 rfl ?_
                  refine g_if_le (pc := 9) (tgt := 45) hX d_NM_numbered_9 (by decide) (by decide) (fun c_13 => ?_) (fun c_13 => ?_)
                  · refine g_lload_n (pc := 45) hX 3 d_NM_numbered_45 rfl rfl ?_
                    exact g_lret (pc := 46) hX hE d_NM_numbered_46 (by decide) (by decide) ⟨by unfold nmb nst; rw [if_neg (show ¬ ((1000 : Int) ≤ m) by omega), if_neg (show ¬ ((100 : Int) ≤ m) by omega), if_pos (show ((10 : Int) ≤ m) by omega), if_pos (show ((1 : Int) ≤ m) by omega)], rfl, rfl, rfl⟩
                  · exact absurd (by decide) c_13
        · refine g_lload_n (pc := 18) hX 3 d_NM_numbered_18 rfl rfl ?_
          refine g_bipush (pc := 19) hX 8 d_NM_numbered_19 (by decide) ?_
          refine g_lshl (pc := 21) hX (z * 256) d_NM_numbered_21 (lI_shl8 _) ?_
          refine g_bipush (pc := 22) hX 48 d_NM_numbered_22 (by decide) ?_
          refine g_iload_n (pc := 24) hX 2 d_NM_numbered_24 rfl rfl ?_
          refine g_iload (pc := 25) hX d_NM_numbered_25 rfl ?_
          refine g_idiv (pc := 27) hX (m / 100) d_NM_numbered_27 (by decide) (iI_div (a := m) (b := 100) (by omega) (by omega) (by omega) (by omega)) ?_
          refine g_bipush (pc := 28) hX 10 d_NM_numbered_28 (by decide) ?_
          refine g_irem (pc := 30) hX (m / 100 % 10) d_NM_numbered_30 (by decide) (iI_rem (a := m / 100) (b := 10) (by omega) (by omega) (by omega) (by omega)) ?_
          refine g_iadd (pc := 31) hX d_NM_numbered_31 ?_
          refine g_i2l (pc := 32) hX d_NM_numbered_32 (by omega) ?_
          refine g_lor (pc := 33) hX ((z * 256 + (48 + m / 100 % 10))) d_NM_numbered_33 (lI_or8 (by omega) (by omega)) ?_
          refine g_lstore_n (pc := 34) hX 3 d_NM_numbered_34 rfl (by decide) ?_
          refine g_iload (pc := 35) hX d_NM_numbered_35 rfl ?_
          refine g_bipush (pc := 37) hX 10 d_NM_numbered_37 (by decide) ?_
          refine g_idiv (pc := 39) hX (10) d_NM_numbered_39 (by decide) (by decide) ?_
          refine g_istore (pc := 40) hX d_NM_numbered_40 (by decide) ?_
          refine g_goto (pc := 42) (tgt := 7) hX d_NM_numbered_42 (by decide) ?_
          refine g_iload (pc := 7) hX d_NM_numbered_7 rfl ?_
          refine g_if_le (pc := 9) (tgt := 45) hX d_NM_numbered_9 (by decide) (by decide) (fun c_14 => ?_) (fun c_14 => ?_)
          · exact absurd c_14 (by decide)
          · refine g_iload_n (pc := 12) hX 2 d_NM_numbered_12 rfl rfl ?_
            refine g_iload (pc := 13) hX d_NM_numbered_13 rfl ?_
            refine g_icmp_lt (pc := 15) (tgt := 35) hX d_NM_numbered_15 (by decide) (by omega) (by omega) (fun c_15 => ?_) (fun c_15 => ?_)
            · exact absurd c_15 (by omega)
            · refine g_lload_n (pc := 18) hX 3 d_NM_numbered_18 rfl rfl ?_
              refine g_bipush (pc := 19) hX 8 d_NM_numbered_19 (by decide) ?_
              refine g_lshl (pc := 21) hX ((z * 256 + (48 + m / 100 % 10)) * 256) d_NM_numbered_21 (lI_shl8 _) ?_
              refine g_bipush (pc := 22) hX 48 d_NM_numbered_22 (by decide) ?_
              refine g_iload_n (pc := 24) hX 2 d_NM_numbered_24 rfl rfl ?_
              refine g_iload (pc := 25) hX d_NM_numbered_25 rfl ?_
              refine g_idiv (pc := 27) hX (m / 10) d_NM_numbered_27 (by decide) (iI_div (a := m) (b := 10) (by omega) (by omega) (by omega) (by omega)) ?_
              refine g_bipush (pc := 28) hX 10 d_NM_numbered_28 (by decide) ?_
              refine g_irem (pc := 30) hX (m / 10 % 10) d_NM_numbered_30 (by decide) (iI_rem (a := m / 10) (b := 10) (by omega) (by omega) (by omega) (by omega)) ?_
              refine g_iadd (pc := 31) hX d_NM_numbered_31 ?_
              refine g_i2l (pc := 32) hX d_NM_numbered_32 (by omega) ?_
              refine g_lor (pc := 33) hX (((z * 256 + (48 + m / 100 % 10)) * 256 + (48 + m / 10 % 10))) d_NM_numbered_33 (lI_or8 (by omega) (by omega)) ?_
              refine g_lstore_n (pc := 34) hX 3 d_NM_numbered_34 rfl (by decide) ?_
              refine g_iload (pc := 35) hX d_NM_numbered_35 rfl ?_
              refine g_bipush (pc := 37) hX 10 d_NM_numbered_37 (by decide) ?_
              refine g_idiv (pc := 39) hX (1) d_NM_numbered_39 (by decide) (by decide) ?_
              refine g_istore (pc := 40) hX d_NM_numbered_40 (by decide) ?_
              refine g_goto (pc := 42) (tgt := 7) hX d_NM_numbered_42 (by decide) ?_
              refine g_iload (pc := 7) hX d_NM_numbered_7 rfl ?_
              refine g_if_le (pc := 9) (tgt := 45) hX d_NM_numbered_9 (by decide) (by decide) (fun c_16 => ?_) (fun c_16 => ?_)
              · exact absurd c_16 (by decide)
              · refine g_iload_n (pc := 12) hX 2 d_NM_numbered_12 rfl rfl ?_
                refine g_iload (pc := 13) hX d_NM_numbered_13 rfl ?_
                refine g_icmp_lt (pc := 15) (tgt := 35) hX d_NM_numbered_15 (by decide) (by omega) (by omega) (fun c_17 => ?_) (fun c_17 => ?_)
                · exact absurd c_17 (by omega)
                · refine g_lload_n (pc := 18) hX 3 d_NM_numbered_18 rfl rfl ?_
                  refine g_bipush (pc := 19) hX 8 d_NM_numbered_19 (by decide) ?_
                  refine g_lshl (pc := 21) hX (((z * 256 + (48 + m / 100 % 10)) * 256 + (48 + m / 10 % 10)) * 256) d_NM_numbered_21 (lI_shl8 _) ?_
                  refine g_bipush (pc := 22) hX 48 d_NM_numbered_22 (by decide) ?_
                  refine g_iload_n (pc := 24) hX 2 d_NM_numbered_24 rfl rfl ?_
                  refine g_iload (pc := 25) hX d_NM_numbered_25 rfl ?_
                  refine g_idiv (pc := 27) hX (m / 1) d_NM_numbered_27 (by decide) (iI_div (a := m) (b := 1) (by omega) (by omega) (by omega) (by omega)) ?_
                  refine g_bipush (pc := 28) hX 10 d_NM_numbered_28 (by decide) ?_
                  refine g_irem (pc := 30) hX (m / 1 % 10) d_NM_numbered_30 (by decide) (iI_rem (a := m / 1) (b := 10) (by omega) (by omega) (by omega) (by omega)) ?_
                  refine g_iadd (pc := 31) hX d_NM_numbered_31 ?_
                  refine g_i2l (pc := 32) hX d_NM_numbered_32 (by omega) ?_
                  refine g_lor (pc := 33) hX ((((z * 256 + (48 + m / 100 % 10)) * 256 + (48 + m / 10 % 10)) * 256 + (48 + m / 1 % 10))) d_NM_numbered_33 (lI_or8 (by omega) (by omega)) ?_
                  refine g_lstore_n (pc := 34) hX 3 d_NM_numbered_34 rfl (by decide) ?_
                  refine g_iload (pc := 35) hX d_NM_numbered_35 rfl ?_
                  refine g_bipush (pc := 37) hX 10 d_NM_numbered_37 (by decide) ?_
                  refine g_idiv (pc := 39) hX (0) d_NM_numbered_39 (by decide) (by decide) ?_
                  refine g_istore (pc := 40) hX d_NM_numbered_40 (by decide) ?_
                  refine g_goto (pc := 42) (tgt := 7) hX d_NM_numbered_42 (by decide) ?_
                  refine g_iload (pc := 7) hX d_NM_numbered_7 rfl ?_
                  refine g_if_le (pc := 9) (tgt := 45) hX d_NM_numbered_9 (by decide) (by decide) (fun c_18 => ?_) (fun c_18 => ?_)
                  · refine g_lload_n (pc := 45) hX 3 d_NM_numbered_45 rfl rfl ?_
                    exact g_lret (pc := 46) hX hE d_NM_numbered_46 (by decide) (by decide) ⟨by unfold nmb nst; rw [if_neg (show ¬ ((1000 : Int) ≤ m) by omega), if_pos (show ((100 : Int) ≤ m) by omega), if_pos (show ((10 : Int) ≤ m) by omega), if_pos (show ((1 : Int) ≤ m) by omega)], rfl, rfl, rfl⟩
                  · exact absurd (by decide) c_18
    · refine g_lload_n (pc := 18) hX 3 d_NM_numbered_18 rfl rfl ?_
      refine g_bipush (pc := 19) hX 8 d_NM_numbered_19 (by decide) ?_
      refine g_lshl (pc := 21) hX (z * 256) d_NM_numbered_21 (lI_shl8 _) ?_
      refine g_bipush (pc := 22) hX 48 d_NM_numbered_22 (by decide) ?_
      refine g_iload_n (pc := 24) hX 2 d_NM_numbered_24 rfl rfl ?_
      refine g_iload (pc := 25) hX d_NM_numbered_25 rfl ?_
      refine g_idiv (pc := 27) hX (m / 1000) d_NM_numbered_27 (by decide) (iI_div (a := m) (b := 1000) (by omega) (by omega) (by omega) (by omega)) ?_
      refine g_bipush (pc := 28) hX 10 d_NM_numbered_28 (by decide) ?_
      refine g_irem (pc := 30) hX (m / 1000 % 10) d_NM_numbered_30 (by decide) (iI_rem (a := m / 1000) (b := 10) (by omega) (by omega) (by omega) (by omega)) ?_
      refine g_iadd (pc := 31) hX d_NM_numbered_31 ?_
      refine g_i2l (pc := 32) hX d_NM_numbered_32 (by omega) ?_
      refine g_lor (pc := 33) hX ((z * 256 + (48 + m / 1000 % 10))) d_NM_numbered_33 (lI_or8 (by omega) (by omega)) ?_
      refine g_lstore_n (pc := 34) hX 3 d_NM_numbered_34 rfl (by decide) ?_
      refine g_iload (pc := 35) hX d_NM_numbered_35 rfl ?_
      refine g_bipush (pc := 37) hX 10 d_NM_numbered_37 (by decide) ?_
      refine g_idiv (pc := 39) hX (100) d_NM_numbered_39 (by decide) (by decide) ?_
      refine g_istore (pc := 40) hX d_NM_numbered_40 (by decide) ?_
      refine g_goto (pc := 42) (tgt := 7) hX d_NM_numbered_42 (by decide) ?_
      refine g_iload (pc := 7) hX d_NM_numbered_7 rfl ?_
      refine g_if_le (pc := 9) (tgt := 45) hX d_NM_numbered_9 (by decide) (by decide) (fun c_19 => ?_) (fun c_19 => ?_)
      · exact absurd c_19 (by decide)
      · refine g_iload_n (pc := 12) hX 2 d_NM_numbered_12 rfl rfl ?_
        refine g_iload (pc := 13) hX d_NM_numbered_13 rfl ?_
        refine g_icmp_lt (pc := 15) (tgt := 35) hX d_NM_numbered_15 (by decide) (by omega) (by omega) (fun c_20 => ?_) (fun c_20 => ?_)
        · exact absurd c_20 (by omega)
        · refine g_lload_n (pc := 18) hX 3 d_NM_numbered_18 rfl rfl ?_
          refine g_bipush (pc := 19) hX 8 d_NM_numbered_19 (by decide) ?_
          refine g_lshl (pc := 21) hX ((z * 256 + (48 + m / 1000 % 10)) * 256) d_NM_numbered_21 (lI_shl8 _) ?_
          refine g_bipush (pc := 22) hX 48 d_NM_numbered_22 (by decide) ?_
          refine g_iload_n (pc := 24) hX 2 d_NM_numbered_24 rfl rfl ?_
          refine g_iload (pc := 25) hX d_NM_numbered_25 rfl ?_
          refine g_idiv (pc := 27) hX (m / 100) d_NM_numbered_27 (by decide) (iI_div (a := m) (b := 100) (by omega) (by omega) (by omega) (by omega)) ?_
          refine g_bipush (pc := 28) hX 10 d_NM_numbered_28 (by decide) ?_
          refine g_irem (pc := 30) hX (m / 100 % 10) d_NM_numbered_30 (by decide) (iI_rem (a := m / 100) (b := 10) (by omega) (by omega) (by omega) (by omega)) ?_
          refine g_iadd (pc := 31) hX d_NM_numbered_31 ?_
          refine g_i2l (pc := 32) hX d_NM_numbered_32 (by omega) ?_
          refine g_lor (pc := 33) hX (((z * 256 + (48 + m / 1000 % 10)) * 256 + (48 + m / 100 % 10))) d_NM_numbered_33 (lI_or8 (by omega) (by omega)) ?_
          refine g_lstore_n (pc := 34) hX 3 d_NM_numbered_34 rfl (by decide) ?_
          refine g_iload (pc := 35) hX d_NM_numbered_35 rfl ?_
          refine g_bipush (pc := 37) hX 10 d_NM_numbered_37 (by decide) ?_
          refine g_idiv (pc := 39) hX (10) d_NM_numbered_39 (by decide) (by decide) ?_
          refine g_istore (pc := 40) hX d_NM_numbered_40 (by decide) ?_
          refine g_goto (pc := 42) (tgt := 7) hX d_NM_numbered_42 (by decide) ?_
          refine g_iload (pc := 7) hX d_NM_numbered_7 rfl ?_
          refine g_if_le (pc := 9) (tgt := 45) hX d_NM_numbered_9 (by decide) (by decide) (fun c_21 => ?_) (fun c_21 => ?_)
          · exact absurd c_21 (by decide)
          · refine g_iload_n (pc := 12) hX 2 d_NM_numbered_12 rfl rfl ?_
            refine g_iload (pc := 13) hX d_NM_numbered_13 rfl ?_
            refine g_icmp_lt (pc := 15) (tgt := 35) hX d_NM_numbered_15 (by decide) (by omega) (by omega) (fun c_22 => ?_) (fun c_22 => ?_)
            · exact absurd c_22 (by omega)
            · refine g_lload_n (pc := 18) hX 3 d_NM_numbered_18 rfl rfl ?_
              refine g_bipush (pc := 19) hX 8 d_NM_numbered_19 (by decide) ?_
              refine g_lshl (pc := 21) hX (((z * 256 + (48 + m / 1000 % 10)) * 256 + (48 + m / 100 % 10)) * 256) d_NM_numbered_21 (lI_shl8 _) ?_
              refine g_bipush (pc := 22) hX 48 d_NM_numbered_22 (by decide) ?_
              refine g_iload_n (pc := 24) hX 2 d_NM_numbered_24 rfl rfl ?_
              refine g_iload (pc := 25) hX d_NM_numbered_25 rfl ?_
              refine g_idiv (pc := 27) hX (m / 10) d_NM_numbered_27 (by decide) (iI_div (a := m) (b := 10) (by omega) (by omega) (by omega) (by omega)) ?_
              refine g_bipush (pc := 28) hX 10 d_NM_numbered_28 (by decide) ?_
              refine g_irem (pc := 30) hX (m / 10 % 10) d_NM_numbered_30 (by decide) (iI_rem (a := m / 10) (b := 10) (by omega) (by omega) (by omega) (by omega)) ?_
              refine g_iadd (pc := 31) hX d_NM_numbered_31 ?_
              refine g_i2l (pc := 32) hX d_NM_numbered_32 (by omega) ?_
              refine g_lor (pc := 33) hX ((((z * 256 + (48 + m / 1000 % 10)) * 256 + (48 + m / 100 % 10)) * 256 + (48 + m / 10 % 10))) d_NM_numbered_33 (lI_or8 (by omega) (by omega)) ?_
              refine g_lstore_n (pc := 34) hX 3 d_NM_numbered_34 rfl (by decide) ?_
              refine g_iload (pc := 35) hX d_NM_numbered_35 rfl ?_
              refine g_bipush (pc := 37) hX 10 d_NM_numbered_37 (by decide) ?_
              refine g_idiv (pc := 39) hX (1) d_NM_numbered_39 (by decide) (by decide) ?_
              refine g_istore (pc := 40) hX d_NM_numbered_40 (by decide) ?_
              refine g_goto (pc := 42) (tgt := 7) hX d_NM_numbered_42 (by decide) ?_
              refine g_iload (pc := 7) hX d_NM_numbered_7 rfl ?_
              refine g_if_le (pc := 9) (tgt := 45) hX d_NM_numbered_9 (by decide) (by decide) (fun c_23 => ?_) (fun c_23 => ?_)
              · exact absurd c_23 (by decide)
              · refine g_iload_n (pc := 12) hX 2 d_NM_numbered_12 rfl rfl ?_
                refine g_iload (pc := 13) hX d_NM_numbered_13 rfl ?_
                refine g_icmp_lt (pc := 15) (tgt := 35) hX d_NM_numbered_15 (by decide) (by omega) (by omega) (fun c_24 => ?_) (fun c_24 => ?_)
                · exact absurd c_24 (by omega)
                · refine g_lload_n (pc := 18) hX 3 d_NM_numbered_18 rfl rfl ?_
                  refine g_bipush (pc := 19) hX 8 d_NM_numbered_19 (by decide) ?_
                  refine g_lshl (pc := 21) hX ((((z * 256 + (48 + m / 1000 % 10)) * 256 + (48 + m / 100 % 10)) * 256 + (48 + m / 10 % 10)) * 256) d_NM_numbered_21 (lI_shl8 _) ?_
                  refine g_bipush (pc := 22) hX 48 d_NM_numbered_22 (by decide) ?_
                  refine g_iload_n (pc := 24) hX 2 d_NM_numbered_24 rfl rfl ?_
                  refine g_iload (pc := 25) hX d_NM_numbered_25 rfl ?_
                  refine g_idiv (pc := 27) hX (m / 1) d_NM_numbered_27 (by decide) (iI_div (a := m) (b := 1) (by omega) (by omega) (by omega) (by omega)) ?_
                  refine g_bipush (pc := 28) hX 10 d_NM_numbered_28 (by decide) ?_
                  refine g_irem (pc := 30) hX (m / 1 % 10) d_NM_numbered_30 (by decide) (iI_rem (a := m / 1) (b := 10) (by omega) (by omega) (by omega) (by omega)) ?_
                  refine g_iadd (pc := 31) hX d_NM_numbered_31 ?_
                  refine g_i2l (pc := 32) hX d_NM_numbered_32 (by omega) ?_
                  refine g_lor (pc := 33) hX (((((z * 256 + (48 + m / 1000 % 10)) * 256 + (48 + m / 100 % 10)) * 256 + (48 + m / 10 % 10)) * 256 + (48 + m / 1 % 10))) d_NM_numbered_33 (lI_or8 (by omega) (by omega)) ?_
                  refine g_lstore_n (pc := 34) hX 3 d_NM_numbered_34 rfl (by decide) ?_
                  refine g_iload (pc := 35) hX d_NM_numbered_35 rfl ?_
                  refine g_bipush (pc := 37) hX 10 d_NM_numbered_37 (by decide) ?_
                  refine g_idiv (pc := 39) hX (0) d_NM_numbered_39 (by decide) (by decide) ?_
                  refine g_istore (pc := 40) hX d_NM_numbered_40 (by decide) ?_
                  refine g_goto (pc := 42) (tgt := 7) hX d_NM_numbered_42 (by decide) ?_
                  refine g_iload (pc := 7) hX d_NM_numbered_7 rfl ?_
                  refine g_if_le (pc := 9) (tgt := 45) hX d_NM_numbered_9 (by decide) (by decide) (fun c_25 => ?_) (fun c_25 => ?_)
                  · refine g_lload_n (pc := 45) hX 3 d_NM_numbered_45 rfl rfl ?_
                    exact g_lret (pc := 46) hX hE d_NM_numbered_46 (by decide) (by decide) ⟨by unfold nmb nst; rw [if_pos (show ((1000 : Int) ≤ m) by omega), if_pos (show ((100 : Int) ≤ m) by omega), if_pos (show ((10 : Int) ≤ m) by omega), if_pos (show ((1 : Int) ≤ m) by omega)], rfl, rfl, rfl⟩
                  · exact absurd (by decide) c_25

abbrev rm_NM_numberBehind : Room := { frames := 1, cells := 0, slots := 0, locals := 21 }
set_option maxHeartbeats 4000000 in
set_option maxRecDepth 100000 in
theorem c_NM_numberBehind (l : Launch) (E : gE) (b : Int) (hb : gil b) (z : Int) (hz : gil z) (h0 : 0 ≤ z) : CtI l E y_NM_numberBehind b_NM_numberBehind 11 (some .int) rm_NM_numberBehind [.long (lI b), .long (lI z)] ([]) (nbh b 7 z 0 1) := by
  refine g_start (by decide) (Nat.le_of_ble_eq_true rfl) (fun X hX hE hin => ?_)
  refine g_lload_n (pc := 0) hX 2 d_NM_numberBehind_0 rfl rfl ?_
  refine g_lstore (pc := 1) hX d_NM_numberBehind_1 (by decide) ?_
  refine g_iconst (pc := 3) hX d_NM_numberBehind_3 ?_
  refine g_istore (pc := 4) hX d_NM_numberBehind_4 (by decide) ?_
  refine g_iconst (pc := 6) hX d_NM_numberBehind_6 ?_
  refine g_istore (pc := 7) hX d_NM_numberBehind_7 (by decide) ?_
  refine g_iconst (pc := 9) hX d_NM_numberBehind_9 ?_
  refine g_istore (pc := 10) hX d_NM_numberBehind_10 (by decide) ?_
  have loop : ∀ (d : Nat) (k : Nat) (h m t i : Int), k < d → i = 8 - (k : Int) → k ≤ 7 → 0 ≤ h → h < 9223372036854775808 → nbh b k h m t = nbh b 7 z 0 1 → gW X ([]) 0 0 12 [(0, .long (lI b)), (4, .long (lI (h))), (6, .int (iI (m))), (7, .int (iI (t))), (8, .int (iI (i)))] [] := by
    intro d
    induction d with
    | zero => intro k h m t i hfu hi hk h1 h2 hc; omega
    | succ d ih =>
      intro k h m t i hfu hi hk h1 h2 hc
      refine g_iload (pc := 12) hX d_NM_numberBehind_12 rfl ?_
      refine g_bipush (pc := 14) hX 8 d_NM_numberBehind_14 (by decide) ?_
      refine g_icmp_ge (pc := 16) (tgt := 95) hX d_NM_numberBehind_16 (by decide) (by omega) (by omega) (fun c_1 => ?_) (fun c_1 => ?_)
      · refine g_iconst (pc := 95) hX d_NM_numberBehind_95 ?_
        exact g_iret (pc := 96) hX hE d_NM_numberBehind_96 (by decide) (by decide) ⟨by rw [← hc, show k = 0 by omega]; rfl, rfl, rfl, rfl⟩
      · obtain ⟨k, rfl⟩ : ∃ k2, k = k2 + 1 := ⟨k - 1, by omega⟩
        refine g_lload (pc := 19) hX d_NM_numberBehind_19 rfl ?_
        refine g_ldc2 (pc := 21) hX 255 w_132 (by decide) d_NM_numberBehind_21 ?_
        refine g_land (pc := 24) hX (h % 256) d_NM_numberBehind_24 (lI_255 h) ?_
        refine g_lstore (pc := 25) hX d_NM_numberBehind_25 (by decide) ?_
        refine g_lload (pc := 27) hX d_NM_numberBehind_27 rfl ?_
        refine g_iS (pc := 29) hX (c_NM_isDigit l E _ (by omega)) gy_NM_isDigit w_136 w_135 rfl (by decide) (by decide) [] rfl rfl _ rfl (Nat.le_of_ble_eq_true rfl) d_NM_numberBehind_29 (by decide) (by decide) ?_
        refine g_bne (pc := 32) (tgt := 37) hX d_NM_numberBehind_32 (by decide) (fun c_2 => ?_) (fun c_2 => ?_)
        · refine g_iload (pc := 37) hX d_NM_numberBehind_37 rfl ?_
          refine g_iload (pc := 39) hX d_NM_numberBehind_39 rfl ?_
          refine g_lload (pc := 41) hX d_NM_numberBehind_41 rfl ?_
          refine g_ldc2 (pc := 43) hX 48 w_138 (by decide) d_NM_numberBehind_43 ?_
          refine g_lsub (pc := 46) hX d_NM_numberBehind_46 ?_
          refine g_l2i (pc := 47) hX d_NM_numberBehind_47 ?_
          refine g_imul (pc := 48) hX d_NM_numberBehind_48 ?_
          refine g_iadd (pc := 49) hX d_NM_numberBehind_49 ?_
          refine g_istore (pc := 50) hX d_NM_numberBehind_50 (by decide) ?_
          refine g_iload (pc := 52) hX d_NM_numberBehind_52 rfl ?_
          refine g_bipush (pc := 54) hX 10 d_NM_numberBehind_54 (by decide) ?_
          refine g_imul (pc := 56) hX d_NM_numberBehind_56 ?_
          refine g_istore (pc := 57) hX d_NM_numberBehind_57 (by decide) ?_
          refine g_lload (pc := 59) hX d_NM_numberBehind_59 rfl ?_
          refine g_bipush (pc := 61) hX 8 d_NM_numberBehind_61 (by decide) ?_
          refine g_lushr (pc := 63) hX (h / 256) d_NM_numberBehind_63 (lI_ush8 (by omega) (by omega)) ?_
          refine g_lstore (pc := 64) hX d_NM_numberBehind_64 (by decide) ?_
          refine g_lload (pc := 66) hX d_NM_numberBehind_66 rfl ?_
          refine g_lload_n (pc := 68) hX 0 d_NM_numberBehind_68 rfl rfl ?_
          refine g_lcmp_ne (pc := 69) (tgt := 89) hX d_NM_numberBehind_69 d_NM_numberBehind_70 (by decide) (by omega) (by omega) (fun c_3 => ?_) (fun c_3 => ?_)
          · refine g_iinc (pc := 89) hX d_NM_numberBehind_89 (by decide) rfl ?_
            refine g_goto (pc := 92) (tgt := 12) hX d_NM_numberBehind_92 (by decide) ?_
            refine g_lv [(0, .long (lI b)), (4, .long (lI (h / 256))), (6, .int (iI (m + t * (h % 256 - 48)))), (7, .int (iI (t * 10))), (8, .int (iI (i + 1)))] ⟨rfl, rfl, rfl, rfl, rfl, trivial⟩ ?_
            exact ih k (h / 256) _ _ (i + 1) (by omega) (by omega) (by omega) (by omega) (by omega) (by rw [← hc, nbh_s (by omega) (by omega)])
          · refine g_lload (pc := 73) hX d_NM_numberBehind_73 rfl ?_
            refine g_ldc2 (pc := 75) hX 48 w_138 (by decide) d_NM_numberBehind_75 ?_
            refine g_lcmp_ne (pc := 78) (tgt := 86) hX d_NM_numberBehind_78 d_NM_numberBehind_79 (by decide) (by omega) (by omega) (fun c_4 => ?_) (fun c_4 => ?_)
            · refine g_iload (pc := 86) hX d_NM_numberBehind_86 rfl ?_
              exact g_iret (pc := 88) hX hE d_NM_numberBehind_88 (by decide) (by decide) ⟨by rw [← hc, nbh_e (by omega) (by omega), if_neg (by omega)], rfl, rfl, rfl⟩
            · refine g_iconst (pc := 82) hX d_NM_numberBehind_82 ?_
              refine g_goto (pc := 83) (tgt := 88) hX d_NM_numberBehind_83 (by decide) ?_
              exact g_iret (pc := 88) hX hE d_NM_numberBehind_88 (by decide) (by decide) ⟨by rw [← hc, nbh_e (by omega) (by omega), if_pos (by omega)], rfl, rfl, rfl⟩
        · refine g_iconst (pc := 35) hX d_NM_numberBehind_35 ?_
          exact g_iret (pc := 36) hX hE d_NM_numberBehind_36 (by decide) (by decide) ⟨by rw [← hc, nbh_n (by omega)], rfl, rfl, rfl⟩
  refine g_lv [(0, .long (lI b)), (4, .long (lI (z))), (6, .int (iI (0))), (7, .int (iI (1))), (8, .int (iI (1)))] ⟨rfl, rfl, rfl, rfl, rfl, trivial⟩ ?_
  exact loop 8 7 z 0 1 1 (by omega) (by omega) (by omega) (by omega) (by omega) rfl
  
