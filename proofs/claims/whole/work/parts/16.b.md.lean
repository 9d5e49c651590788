abbrev rm_MD_length : Room := { frames := 0, cells := 0, slots := 0, locals := 0 }
set_option maxHeartbeats 4000000 in
set_option maxRecDepth 100000 in
theorem c_MD_length (l : Launch) (E : gE) (z : Int) (hz : gil z) : CtI l E y_MD_length b_MD_length 5 (some .int) rm_MD_length [.long (lI z)] ([]) (lenF 8 (z % 18446744073709551616)) := by
  refine g_start (by decide) (Nat.le_of_ble_eq_true rfl) (fun X hX hE hin => ?_)
  refine g_iconst (pc := 0) hX d_MD_length_0 ?_
  refine g_istore_n (pc := 1) hX 2 d_MD_length_1 rfl (by decide) ?_
  refine g_lload_n (pc := 2) hX 0 d_MD_length_2 rfl rfl ?_
  refine g_lstore_n (pc := 3) hX 3 d_MD_length_3 rfl (by decide) ?_
  have loop : ∀ (d : Nat) (k : Nat) (a c : Int), k < d → k ≤ 8 → gil a → a % 18446744073709551616 < pwB k → 0 ≤ c → c ≤ 8 - (k : Int) → c + lenF k (a % 18446744073709551616) = lenF 8 (z % 18446744073709551616) → gW X ([]) 0 0 4 [(2, .int (iI (c))), (3, .long (lI (a)))] [] := by
    intro d
    induction d with
    | zero => intro k a c hfu hk ha hb h0 h1 hc; omega
    | succ d ih =>
      intro k a c hfu hk ha hb h0 h1 hc
      refine g_lload_n (pc := 4) hX 3 d_MD_length_4 rfl rfl ?_
      refine g_lconst (pc := 5) hX 0 d_MD_length_5 (by decide) ?_
      refine g_lcmp_eq (pc := 6) (tgt := 21) hX d_MD_length_6 d_MD_length_7 (by decide) (by omega) (by omega) (fun c_1 => ?_) (fun c_1 => ?_)
      · refine g_iload_n (pc := 21) hX 2 d_MD_length_21 rfl rfl ?_
        exact g_iret (pc := 22) hX hE d_MD_length_22 (by decide) (by decide) ⟨by rw [← hc, lenF_z (show a % 18446744073709551616 = 0 by omega), Int.add_zero], rfl, rfl, rfl⟩
      · have hk1 : 1 ≤ k := by
          rcases Nat.eq_zero_or_pos k with e | e
          · rw [e] at hb; have e1 : pwB 0 = 1 := rfl; omega
          · exact e
        obtain ⟨k, rfl⟩ : ∃ k2, k = k2 + 1 := ⟨k - 1, by omega⟩
        refine g_iinc (pc := 10) hX d_MD_length_10 (by decide) rfl ?_
        refine g_lload_n (pc := 13) hX 3 d_MD_length_13 rfl rfl ?_
        refine g_bipush (pc := 14) hX 8 d_MD_length_14 (by decide) ?_
        refine g_lushr (pc := 16) hX (a % 18446744073709551616 / 256) d_MD_length_16 (lI_ush a (k := 8) (by decide)) ?_
        refine g_lstore_n (pc := 17) hX 3 d_MD_length_17 rfl (by decide) ?_
        refine g_goto (pc := 18) (tgt := 4) hX d_MD_length_18 (by decide) ?_
        refine g_lv [(2, .int (iI (c + 1))), (3, .long (lI (a % 18446744073709551616 / 256)))] ⟨rfl, rfl, trivial⟩ ?_
        exact ih k (a % 18446744073709551616 / 256) (c + 1) (by omega) (by omega) (by omega) (by rw [pwB_s] at hb; omega) (by omega) (by omega) (by rw [show a % 18446744073709551616 / 256 % 18446744073709551616 = a % 18446744073709551616 / 256 by omega, ← hc, lenF_s (by omega)]; omega)
  refine g_lv [(2, .int (iI (0))), (3, .long (lI (z)))] ⟨rfl, rfl, trivial⟩ ?_
  exact loop 9 8 z 0 (by omega) (by omega) (by omega) (by have : pwB 8 = 18446744073709551616 := rfl; omega) (by omega) (by omega) (by omega)
  

abbrev rm_MD_isName : Room := { frames := 1, cells := 0, slots := 0, locals := 24 }
set_option maxHeartbeats 4000000 in
set_option maxRecDepth 100000 in
theorem c_MD_isName (l : Launch) (E : gE) (z : Int) (hz : gil z) (u4 : Unit) : CtI l E y_MD_isName b_MD_isName 8 (some .boolean) rm_MD_isName [.long (lI z), .int (iI 4)] ([]) (bZ (okName z)) := by
  refine g_start (by decide) (Nat.le_of_ble_eq_true rfl) (fun X hX hE hin => ?_)
  refine g_lload_n (pc := 0) hX 0 d_MD_isName_0 rfl rfl ?_
  refine g_iS (pc := 1) hX (c_MD_length l E _ (by omega)) gy_MD_length w_534 w_533 rfl (by decide) (by decide) [] rfl (by decide +kernel) _ rfl (Nat.le_of_ble_eq_true rfl) d_MD_isName_1 (by decide) (by decide) ?_
  have hlc := lenF_cases (u := z % 18446744073709551616) (by omega) (by omega)
  obtain ⟨N, hN⟩ : ∃ N : Nat, lenF 8 (z % 18446744073709551616) = N := ⟨(lenF 8 (z % 18446744073709551616)).toNat, by omega⟩
  rw [hN] at hlc ⊢
  refine g_istore_n (pc := 4) hX 3 d_MD_isName_4 rfl (by decide) ?_
  refine g_iload_n (pc := 5) hX 3 d_MD_isName_5 rfl rfl ?_
  refine g_if_le (pc := 6) (tgt := 18) hX d_MD_isName_6 (by decide) (by omega) (fun c_1 => ?_) (fun c_1 => ?_)
  · refine g_iconst (pc := 18) hX d_MD_isName_18 ?_
    refine g_istore (pc := 19) hX d_MD_isName_19 (by decide) ?_
    refine g_iconst (pc := 21) hX d_MD_isName_21 ?_
    refine g_istore (pc := 22) hX d_MD_isName_22 (by decide) ?_
    refine g_iload (pc := 24) hX d_MD_isName_24 rfl ?_
    refine g_iload_n (pc := 26) hX 3 d_MD_isName_26 rfl rfl ?_
    refine g_icmp_ge (pc := 27) (tgt := 106) hX d_MD_isName_27 (by decide) (by omega) (by omega) (fun c_2 => ?_) (fun c_2 => ?_)
    · refine g_iload (pc := 106) hX d_MD_isName_106 rfl ?_
      exact g_zret (pc := 108) hX hE (by first | exact Or.inl rfl | exact Or.inr rfl | exact bZ_01 _) d_MD_isName_108 (by decide) (by decide) ⟨by rw [bZ_f (fun q => by have q1 := q.1; have q2 := q.2.1; omega)], rfl, rfl, rfl⟩
    · refine g_iload (pc := 30) hX d_MD_isName_30 rfl ?_
      refine g_if_eq (pc := 32) (tgt := 106) hX d_MD_isName_32 (by decide) (by decide) (fun c_3 => ?_) (fun c_3 => ?_)
      · refine g_iload (pc := 106) hX d_MD_isName_106 rfl ?_
        exact g_zret (pc := 108) hX hE (by first | exact Or.inl rfl | exact Or.inr rfl | exact bZ_01 _) d_MD_isName_108 (by decide) (by decide) ⟨by rw [bZ_f (fun q => by have q1 := q.1; have q2 := q.2.1; omega)], rfl, rfl, rfl⟩
      · exact absurd (by decide) c_3
  · refine g_iload_n (pc := 9) hX 3 d_MD_isName_9 rfl rfl ?_
    refine g_iload_n (pc := 10) hX 2 d_MD_isName_10 rfl rfl ?_
    refine g_icmp_gt (pc := 11) (tgt := 18) hX d_MD_isName_11 (by decide) (by omega) (by omega) (fun c_4 => ?_) (fun c_4 => ?_)
    · refine g_iconst (pc := 18) hX d_MD_isName_18 ?_
      refine g_istore (pc := 19) hX d_MD_isName_19 (by decide) ?_
      refine g_iconst (pc := 21) hX d_MD_isName_21 ?_
      refine g_istore (pc := 22) hX d_MD_isName_22 (by decide) ?_
      refine g_iload (pc := 24) hX d_MD_isName_24 rfl ?_
      refine g_iload_n (pc := 26) hX 3 d_MD_isName_26 rfl rfl ?_
      refine g_icmp_ge (pc := 27) (tgt := 106) hX d_MD_isName_27 (by decide) (by omega) (by omega) (fun c_5 => ?_) (fun c_5 => ?_)
      · refine g_iload (pc := 106) hX d_MD_isName_106 rfl ?_
        exact g_zret (pc := 108) hX hE (by first | exact Or.inl rfl | exact Or.inr rfl | exact bZ_01 _) d_MD_isName_108 (by decide) (by decide) ⟨by rw [bZ_f (fun q => by have q1 := q.1; have q2 := q.2.1; omega)], rfl, rfl, rfl⟩
      · refine g_iload (pc := 30) hX d_MD_isName_30 rfl ?_
        refine g_if_eq (pc := 32) (tgt := 106) hX d_MD_isName_32 (by decide) (by decide) (fun c_6 => ?_) (fun c_6 => ?_)
        · refine g_iload (pc := 106) hX d_MD_isName_106 rfl ?_
          exact g_zret (pc := 108) hX hE (by first | exact Or.inl rfl | exact Or.inr rfl | exact bZ_01 _) d_MD_isName_108 (by decide) (by decide) ⟨by rw [bZ_f (fun q => by have q1 := q.1; have q2 := q.2.1; omega)], rfl, rfl, rfl⟩
        · exact absurd (by decide) c_6
    · refine g_iconst (pc := 14) hX d_MD_isName_14 ?_
      refine g_goto (pc := 15) (tgt := 19) hX d_MD_isName_15 (by decide) ?_
      refine g_istore (pc := 19) hX d_MD_isName_19 (by decide) ?_
      refine g_iconst (pc := 21) hX d_MD_isName_21 ?_
      refine g_istore (pc := 22) hX d_MD_isName_22 (by decide) ?_
      have loop : ∀ (d k : Nat), N < k + d → k ≤ N → (∀ j, j < k → okAt (z % 18446744073709551616 / pwB (N - 1 - j) % 256) j) → gW X ([]) 0 0 24 [(0, .long (lI z)), (3, .int (iI (N : Int))), (4, .int (iI 1)), (5, .int (iI (k : Int)))] [] := by
        intro d
        induction d with
        | zero => intro k hfu hk; omega
        | succ d ih =>
          intro k hfu hk hI
          refine g_iload (pc := 24) hX d_MD_isName_24 rfl ?_
          refine g_iload_n (pc := 26) hX 3 d_MD_isName_26 rfl rfl ?_
          refine g_icmp_ge (pc := 27) (tgt := 106) hX d_MD_isName_27 (by decide) (by omega) (by omega) (fun c_7 => ?_) (fun c_7 => ?_)
          · refine g_iload (pc := 106) hX d_MD_isName_106 rfl ?_
            exact g_zret (pc := 108) hX hE (by first | exact Or.inl rfl | exact Or.inr rfl | exact bZ_01 _) d_MD_isName_108 (by decide) (by decide) ⟨by rw [bZ_t ((okN hz hN (by omega) (by omega)).mpr (fun j hj => hI j (by omega)))], rfl, rfl, rfl⟩
          · refine g_iload (pc := 30) hX d_MD_isName_30 rfl ?_
            refine g_if_eq (pc := 32) (tgt := 106) hX d_MD_isName_32 (by decide) (by decide) (fun c_8 => ?_) (fun c_8 => ?_)
            · exact absurd c_8 (by decide)
            · refine g_lload_n (pc := 35) hX 0 d_MD_isName_35 rfl rfl ?_
              refine g_bipush (pc := 36) hX 8 d_MD_isName_36 (by decide) ?_
              refine g_iload_n (pc := 38) hX 3 d_MD_isName_38 rfl rfl ?_
              refine g_iconst (pc := 39) hX d_MD_isName_39 ?_
              refine g_isub (pc := 40) hX d_MD_isName_40 ?_
              refine g_iload (pc := 41) hX d_MD_isName_41 rfl ?_
              refine g_isub (pc := 43) hX d_MD_isName_43 ?_
              refine g_imul (pc := 44) hX d_MD_isName_44 ?_
              refine g_lushr (pc := 45) hX (z % 18446744073709551616 / pwB (N - 1 - k)) d_MD_isName_45 (lI_shN z (by omega) (by omega)) ?_
              refine g_ldc2 (pc := 46) hX 255 w_536 (by decide) d_MD_isName_46 ?_
              refine g_land (pc := 49) hX (z % 18446744073709551616 / pwB (N - 1 - k) % 256) d_MD_isName_49 (lI_255 _) ?_
              refine g_lstore (pc := 50) hX d_MD_isName_50 (by decide) ?_
              refine g_lload (pc := 52) hX d_MD_isName_52 rfl ?_
              refine g_ldc2 (pc := 54) hX 97 w_537 (by decide) d_MD_isName_54 ?_
              refine g_lcmp_lt (pc := 57) (tgt := 70) hX d_MD_isName_57 d_MD_isName_58 (by decide) (by omega) (by omega) (fun c_9 => ?_) (fun c_9 => ?_)
              · refine g_iload (pc := 70) hX d_MD_isName_70 rfl ?_
                refine g_if_le (pc := 72) (tgt := 97) hX d_MD_isName_72 (by decide) (by omega) (fun c_10 => ?_) (fun c_10 => ?_)
                · refine g_iconst (pc := 97) hX d_MD_isName_97 ?_
                  refine g_istore (pc := 98) hX d_MD_isName_98 (by decide) ?_
                  refine g_iinc (pc := 100) hX d_MD_isName_100 (by decide) rfl ?_
                  refine g_goto (pc := 103) (tgt := 24) hX d_MD_isName_103 (by decide) ?_
                  refine g_iload (pc := 24) hX d_MD_isName_24 rfl ?_
                  refine g_iload_n (pc := 26) hX 3 d_MD_isName_26 rfl rfl ?_
                  refine g_icmp_ge (pc := 27) (tgt := 106) hX d_MD_isName_27 (by decide) (by omega) (by omega) (fun c_11 => ?_) (fun c_11 => ?_)
                  · refine g_iload (pc := 106) hX d_MD_isName_106 rfl ?_
                    exact g_zret (pc := 108) hX hE (by first | exact Or.inl rfl | exact Or.inr rfl | exact bZ_01 _) d_MD_isName_108 (by decide) (by decide) ⟨by rw [bZ_f (fun q => by have q3 := (okN hz hN (by omega) (by omega)).mp q k (by omega); unfold okAt at q3; omega)], rfl, rfl, rfl⟩
                  · refine g_iload (pc := 30) hX d_MD_isName_30 rfl ?_
                    refine g_if_eq (pc := 32) (tgt := 106) hX d_MD_isName_32 (by decide) (by decide) (fun c_12 => ?_) (fun c_12 => ?_)
                    · refine g_iload (pc := 106) hX d_MD_isName_106 rfl ?_
                      exact g_zret (pc := 108) hX hE (by first | exact Or.inl rfl | exact Or.inr rfl | exact bZ_01 _) d_MD_isName_108 (by decide) (by decide) ⟨by rw [bZ_f (fun q => by have q3 := (okN hz hN (by omega) (by omega)).mp q k (by omega); unfold okAt at q3; omega)], rfl, rfl, rfl⟩
                    · exact absurd (by decide) c_12
                · refine g_lload (pc := 75) hX d_MD_isName_75 rfl ?_
                  refine g_ldc2 (pc := 77) hX 48 w_539 (by decide) d_MD_isName_77 ?_
                  refine g_lcmp_lt (pc := 80) (tgt := 97) hX d_MD_isName_80 d_MD_isName_81 (by decide) (by omega) (by omega) (fun c_13 => ?_) (fun c_13 => ?_)
                  · refine g_iconst (pc := 97) hX d_MD_isName_97 ?_
                    refine g_istore (pc := 98) hX d_MD_isName_98 (by decide) ?_
                    refine g_iinc (pc := 100) hX d_MD_isName_100 (by decide) rfl ?_
                    refine g_goto (pc := 103) (tgt := 24) hX d_MD_isName_103 (by decide) ?_
                    refine g_iload (pc := 24) hX d_MD_isName_24 rfl ?_
                    refine g_iload_n (pc := 26) hX 3 d_MD_isName_26 rfl rfl ?_
                    refine g_icmp_ge (pc := 27) (tgt := 106) hX d_MD_isName_27 (by decide) (by omega) (by omega) (fun c_14 => ?_) (fun c_14 => ?_)
                    · refine g_iload (pc := 106) hX d_MD_isName_106 rfl ?_
                      exact g_zret (pc := 108) hX hE (by first | exact Or.inl rfl | exact Or.inr rfl | exact bZ_01 _) d_MD_isName_108 (by decide) (by decide) ⟨by rw [bZ_f (fun q => by have q3 := (okN hz hN (by omega) (by omega)).mp q k (by omega); unfold okAt at q3; omega)], rfl, rfl, rfl⟩
                    · refine g_iload (pc := 30) hX d_MD_isName_30 rfl ?_
                      refine g_if_eq (pc := 32) (tgt := 106) hX d_MD_isName_32 (by decide) (by decide) (fun c_15 => ?_) (fun c_15 => ?_)
                      · refine g_iload (pc := 106) hX d_MD_isName_106 rfl ?_
                        exact g_zret (pc := 108) hX hE (by first | exact Or.inl rfl | exact Or.inr rfl | exact bZ_01 _) d_MD_isName_108 (by decide) (by decide) ⟨by rw [bZ_f (fun q => by have q3 := (okN hz hN (by omega) (by omega)).mp q k (by omega); unfold okAt at q3; omega)], rfl, rfl, rfl⟩
                      · exact absurd (by decide) c_15
                  · refine g_lload (pc := 84) hX d_MD_isName_84 rfl ?_
                    refine g_ldc2 (pc := 86) hX 57 w_540 (by decide) d_MD_isName_86 ?_
                    refine g_lcmp_gt (pc := 89) (tgt := 97) hX d_MD_isName_89 d_MD_isName_90 (by decide) (by omega) (by omega) (fun c_16 => ?_) (fun c_16 => ?_)
                    · refine g_iconst (pc := 97) hX d_MD_isName_97 ?_
                      refine g_istore (pc := 98) hX d_MD_isName_98 (by decide) ?_
                      refine g_iinc (pc := 100) hX d_MD_isName_100 (by decide) rfl ?_
                      refine g_goto (pc := 103) (tgt := 24) hX d_MD_isName_103 (by decide) ?_
                      refine g_iload (pc := 24) hX d_MD_isName_24 rfl ?_
                      refine g_iload_n (pc := 26) hX 3 d_MD_isName_26 rfl rfl ?_
                      refine g_icmp_ge (pc := 27) (tgt := 106) hX d_MD_isName_27 (by decide) (by omega) (by omega) (fun c_17 => ?_) (fun c_17 => ?_)
                      · refine g_iload (pc := 106) hX d_MD_isName_106 rfl ?_
                        exact g_zret (pc := 108) hX hE (by first | exact Or.inl rfl | exact Or.inr rfl | exact bZ_01 _) d_MD_isName_108 (by decide) (by decide) ⟨by rw [bZ_f (fun q => by have q3 := (okN hz hN (by omega) (by omega)).mp q k (by omega); unfold okAt at q3; omega)], rfl, rfl, rfl⟩
                      · refine g_iload (pc := 30) hX d_MD_isName_30 rfl ?_
                        refine g_if_eq (pc := 32) (tgt := 106) hX d_MD_isName_32 (by decide) (by decide) (fun c_18 => ?_) (fun c_18 => ?_)
                        · refine g_iload (pc := 106) hX d_MD_isName_106 rfl ?_
                          exact g_zret (pc := 108) hX hE (by first | exact Or.inl rfl | exact Or.inr rfl | exact bZ_01 _) d_MD_isName_108 (by decide) (by decide) ⟨by rw [bZ_f (fun q => by have q3 := (okN hz hN (by omega) (by omega)).mp q k (by omega); unfold okAt at q3; omega)], rfl, rfl, rfl⟩
                        · exact absurd (by decide) c_18
                    · refine g_iconst (pc := 93) hX d_MD_isName_93 ?_
                      refine g_goto (pc := 94) (tgt := 98) hX d_MD_isName_94 (by decide) ?_
                      refine g_istore (pc := 98) hX d_MD_isName_98 (by decide) ?_
                      refine g_iinc (pc := 100) hX d_MD_isName_100 (by decide) rfl ?_
                      refine g_goto (pc := 103) (tgt := 24) hX d_MD_isName_103 (by decide) ?_
                      refine g_lv [(0, .long (lI z)), (3, .int (iI (N : Int))), (4, .int (iI 1)), (5, .int (iI ((k + 1 : Nat) : Int)))] ⟨rfl, rfl, rfl, rfl, trivial⟩ ?_
                      exact ih (k + 1) (by omega) (by omega) (fun j hj => by
                        by_cases e : j = k
                        · subst e; unfold okAt; omega
                        · exact hI j (by omega))
              · refine g_lload (pc := 61) hX d_MD_isName_61 rfl ?_
                refine g_ldc2 (pc := 63) hX 122 w_538 (by decide) d_MD_isName_63 ?_
                refine g_lcmp_le (pc := 66) (tgt := 93) hX d_MD_isName_66 d_MD_isName_67 (by decide) (by omega) (by omega) (fun c_19 => ?_) (fun c_19 => ?_)
                · refine g_iconst (pc := 93) hX d_MD_isName_93 ?_
                  refine g_goto (pc := 94) (tgt := 98) hX d_MD_isName_94 (by decide) ?_
                  refine g_istore (pc := 98) hX d_MD_isName_98 (by decide) ?_
                  refine g_iinc (pc := 100) hX d_MD_isName_100 (by decide) rfl ?_
                  refine g_goto (pc := 103) (tgt := 24) hX d_MD_isName_103 (by decide) ?_
                  refine g_lv [(0, .long (lI z)), (3, .int (iI (N : Int))), (4, .int (iI 1)), (5, .int (iI ((k + 1 : Nat) : Int)))] ⟨rfl, rfl, rfl, rfl, trivial⟩ ?_
                  exact ih (k + 1) (by omega) (by omega) (fun j hj => by
                    by_cases e : j = k
                    · subst e; unfold okAt; omega
                    · exact hI j (by omega))
                · refine g_iload (pc := 70) hX d_MD_isName_70 rfl ?_
                  refine g_if_le (pc := 72) (tgt := 97) hX d_MD_isName_72 (by decide) (by omega) (fun c_20 => ?_) (fun c_20 => ?_)
                  · refine g_iconst (pc := 97) hX d_MD_isName_97 ?_
                    refine g_istore (pc := 98) hX d_MD_isName_98 (by decide) ?_
                    refine g_iinc (pc := 100) hX d_MD_isName_100 (by decide) rfl ?_
                    refine g_goto (pc := 103) (tgt := 24) hX d_MD_isName_103 (by decide) ?_
                    refine g_iload (pc := 24) hX d_MD_isName_24 rfl ?_
                    refine g_iload_n (pc := 26) hX 3 d_MD_isName_26 rfl rfl ?_
                    refine g_icmp_ge (pc := 27) (tgt := 106) hX d_MD_isName_27 (by decide) (by omega) (by omega) (fun c_21 => ?_) (fun c_21 => ?_)
                    · refine g_iload (pc := 106) hX d_MD_isName_106 rfl ?_
                      exact g_zret (pc := 108) hX hE (by first | exact Or.inl rfl | exact Or.inr rfl | exact bZ_01 _) d_MD_isName_108 (by decide) (by decide) ⟨by rw [bZ_f (fun q => by have q3 := (okN hz hN (by omega) (by omega)).mp q k (by omega); unfold okAt at q3; omega)], rfl, rfl, rfl⟩
                    · refine g_iload (pc := 30) hX d_MD_isName_30 rfl ?_
                      refine g_if_eq (pc := 32) (tgt := 106) hX d_MD_isName_32 (by decide) (by decide) (fun c_22 => ?_) (fun c_22 => ?_)
                      · refine g_iload (pc := 106) hX d_MD_isName_106 rfl ?_
                        exact g_zret (pc := 108) hX hE (by first | exact Or.inl rfl | exact Or.inr rfl | exact bZ_01 _) d_MD_isName_108 (by decide) (by decide) ⟨by rw [bZ_f (fun q => by have q3 := (okN hz hN (by omega) (by omega)).mp q k (by omega); unfold okAt at q3; omega)], rfl, rfl, rfl⟩
                      · exact absurd (by decide) c_22
                  · refine g_lload (pc := 75) hX d_MD_isName_75 rfl ?_
                    refine g_ldc2 (pc := 77) hX 48 w_539 (by decide) d_MD_isName_77 ?_
                    refine g_lcmp_lt (pc := 80) (tgt := 97) hX d_MD_isName_80 d_MD_isName_81 (by decide) (by omega) (by omega) (fun c_23 => ?_) (fun c_23 => ?_)
                    · refine g_iconst (pc := 97) hX d_MD_isName_97 ?_
                      refine g_istore (pc := 98) hX d_MD_isName_98 (by decide) ?_
                      refine g_iinc (pc := 100) hX d_MD_isName_100 (by decide) rfl ?_
                      refine g_goto (pc := 103) (tgt := 24) hX d_MD_isName_103 (by decide) ?_
                      refine g_iload (pc := 24) hX d_MD_isName_24 rfl ?_
                      refine g_iload_n (pc := 26) hX 3 d_MD_isName_26 rfl rfl ?_
                      refine g_icmp_ge (pc := 27) (tgt := 106) hX d_MD_isName_27 (by decide) (by omega) (by omega) (fun c_24 => ?_) (fun c_24 => ?_)
                      · refine g_iload (pc := 106) hX d_MD_isName_106 rfl ?_
                        exact g_zret (pc := 108) hX hE (by first | exact Or.inl rfl | exact Or.inr rfl | exact bZ_01 _) d_MD_isName_108 (by decide) (by decide) ⟨by rw [bZ_f (fun q => by have q3 := (okN hz hN (by omega) (by omega)).mp q k (by omega); unfold okAt at q3; omega)], rfl, rfl, rfl⟩
                      · refine g_iload (pc := 30) hX d_MD_isName_30 rfl ?_
                        refine g_if_eq (pc := 32) (tgt := 106) hX d_MD_isName_32 (by decide) (by decide) (fun c_25 => ?_) (fun c_25 => ?_)
                        · refine g_iload (pc := 106) hX d_MD_isName_106 rfl ?_
                          exact g_zret (pc := 108) hX hE (by first | exact Or.inl rfl | exact Or.inr rfl | exact bZ_01 _) d_MD_isName_108 (by decide) (by decide) ⟨by rw [bZ_f (fun q => by have q3 := (okN hz hN (by omega) (by omega)).mp q k (by omega); unfold okAt at q3; omega)], rfl, rfl, rfl⟩
                        · exact absurd (by decide) c_25
                    · refine g_lload (pc := 84) hX d_MD_isName_84 rfl ?_
                      refine g_ldc2 (pc := 86) hX 57 w_540 (by decide) d_MD_isName_86 ?_
                      refine g_lcmp_gt (pc := 89) (tgt := 97) hX d_MD_isName_89 d_MD_isName_90 (by decide) (by omega) (by omega) (fun c_26 => ?_) (fun c_26 => ?_)
                      · refine g_iconst (pc := 97) hX d_MD_isName_97 ?_
                        refine g_istore (pc := 98) hX d_MD_isName_98 (by decide) ?_
                        refine g_iinc (pc := 100) hX d_MD_isName_100 (by decide) rfl ?_
                        refine g_goto (pc := 103) (tgt := 24) hX d_MD_isName_103 (by decide) ?_
                        refine g_iload (pc := 24) hX d_MD_isName_24 rfl ?_
                        refine g_iload_n (pc := 26) hX 3 d_MD_isName_26 rfl rfl ?_
                        refine g_icmp_ge (pc := 27) (tgt := 106) hX d_MD_isName_27 (by decide) (by omega) (by omega) (fun c_27 => ?_) (fun c_27 => ?_)
                        · refine g_iload (pc := 106) hX d_MD_isName_106 rfl ?_
                          exact g_zret (pc := 108) hX hE (by first | exact Or.inl rfl | exact Or.inr rfl | exact bZ_01 _) d_MD_isName_108 (by decide) (by decide) ⟨by rw [bZ_f (fun q => by have q3 := (okN hz hN (by omega) (by omega)).mp q k (by omega); unfold okAt at q3; omega)], rfl, rfl, rfl⟩
                        · refine g_iload (pc := 30) hX d_MD_isName_30 rfl ?_
                          refine g_if_eq (pc := 32) (tgt := 106) hX d_MD_isName_32 (by decide) (by decide) (fun c_28 => ?_) (fun c_28 => ?_)
                          · refine g_iload (pc := 106) hX d_MD_isName_106 rfl ?_
                            exact g_zret (pc := 108) hX hE (by first | exact Or.inl rfl | exact Or.inr rfl | exact bZ_01 _) d_MD_isName_108 (by decide) (by decide) ⟨by rw [bZ_f (fun q => by have q3 := (okN hz hN (by omega) (by omega)).mp q k (by omega); unfold okAt at q3; omega)], rfl, rfl, rfl⟩
                          · exact absurd (by decide) c_28
                      · refine g_iconst (pc := 93) hX d_MD_isName_93 ?_
                        refine g_goto (pc := 94) (tgt := 98) hX d_MD_isName_94 (by decide) ?_
                        refine g_istore (pc := 98) hX d_MD_isName_98 (by decide) ?_
                        refine g_iinc (pc := 100) hX d_MD_isName_100 (by decide) rfl ?_
                        refine g_goto (pc := 103) (tgt := 24) hX d_MD_isName_103 (by decide) ?_
                        refine g_lv [(0, .long (lI z)), (3, .int (iI (N : Int))), (4, .int (iI 1)), (5, .int (iI ((k + 1 : Nat) : Int)))] ⟨rfl, rfl, rfl, rfl, trivial⟩ ?_
                        exact ih (k + 1) (by omega) (by omega) (fun j hj => by
                          by_cases e : j = k
                          · subst e; unfold okAt; omega
                          · exact hI j (by omega))
      refine g_lv [(0, .long (lI z)), (3, .int (iI (N : Int))), (4, .int (iI 1)), (5, .int (iI ((0 : Nat) : Int)))] ⟨rfl, rfl, rfl, rfl, trivial⟩ ?_
      exact loop (N + 1) 0 (by omega) (by omega) (fun j hj => by omega)
      

abbrev rm_MD_globalOf : Room := { frames := 0, cells := 0, slots := 0, locals := 0 }
set_option maxHeartbeats 4000000 in
set_option maxRecDepth 100000 in
theorem c_MD_globalOf (l : Launch) (E : gE) (m : Nat) (A : Nat → Nat) (gn ln n kn sn dn : Nat) (mt mg : Int) (G : Nat → Int) (z : Int) (hz : gil z) (hgn : gn ≤ 200) (hG : ∀ j, j < gn → gil (G j)) : CtI l E y_MD_globalOf b_MD_globalOf 4 (some .int) rm_MD_globalOf [.ref m, .long (lI z)] (mdO m A gn ln n kn sn dn mt mg ++ mG E A G) (fnd gn G z) := by
  refine g_start (by decide) (Nat.le_of_ble_eq_true rfl) (fun X hX hE hin => ?_)
  refine g_iconst (pc := 0) hX d_MD_globalOf_0 ?_
  refine g_istore_n (pc := 1) hX 3 d_MD_globalOf_1 rfl (by decide) ?_
  have loop : ∀ (d : Nat) (k : Nat), gn < k + d → k ≤ gn → (∀ j, j < k → G j ≠ z) → gW X (mdO m A gn ln n kn sn dn mt mg ++ mG E A G) 0 0 2 [(0, .ref m), (1, .long (lI z)), (3, .int (iI (k : Int)))] [] := by
    intro d
    induction d with
    | zero => intro k hfu hk hne; omega
    | succ d ih =>
      intro k hfu hk hne
      refine g_iload_n (pc := 2) hX 3 d_MD_globalOf_2 rfl rfl ?_
      refine g_aload_n (pc := 3) hX 0 d_MD_globalOf_3 rfl rfl ?_
      refine g_get (pc := 4) hX f_MD_71 0 rfl rfl d_MD_globalOf_4 ?_
      refine g_icmp_ge (pc := 7) (tgt := 29) hX d_MD_globalOf_7 (by decide) (by omega) (by omega) (fun c_1 => ?_) (fun c_1 => ?_)
      · refine g_iconst (pc := 29) hX d_MD_globalOf_29 ?_
        exact g_iret (pc := 30) hX hE d_MD_globalOf_30 (by decide) (by decide) ⟨by rw [fnd_none (fun j hj => hne j (by omega))], rfl, rfl, rfl⟩
      · refine g_aload_n (pc := 10) hX 0 d_MD_globalOf_10 rfl rfl ?_
        refine g_get (pc := 11) hX f_MD_7 0 rfl rfl d_MD_globalOf_11 ?_
        refine g_iload_n (pc := 14) hX 3 d_MD_globalOf_14 rfl rfl ?_
        have hGk := hG k (by omega)
        refine g_ladN (pc := 15) hX 1 (k := k) rfl (by omega) d_MD_globalOf_15 ?_
        refine g_lload_n (pc := 16) hX 1 d_MD_globalOf_16 rfl rfl ?_
        refine g_lcmp_ne (pc := 17) (tgt := 23) hX d_MD_globalOf_17 d_MD_globalOf_18 (by decide) (by omega) (by omega) (fun c_2 => ?_) (fun c_2 => ?_)
        · refine g_iinc (pc := 23) hX d_MD_globalOf_23 (by decide) rfl ?_
          refine g_goto (pc := 26) (tgt := 2) hX d_MD_globalOf_26 (by decide) ?_
          refine g_lv [(0, .ref m), (1, .long (lI z)), (3, .int (iI ((k + 1 : Nat) : Int)))] ⟨rfl, rfl, rfl, trivial⟩ ?_
          exact ih (k + 1)  (by omega) (by omega) (fun j hj => by
            by_cases e : j = k
            · subst e; exact c_2
            · exact hne j (by omega))
        · refine g_iload_n (pc := 21) hX 3 d_MD_globalOf_21 rfl rfl ?_
          exact g_iret (pc := 22) hX hE d_MD_globalOf_22 (by decide) (by decide) ⟨by rw [fnd_at hne (by omega) (Decidable.not_not.mp c_2)], rfl, rfl, rfl⟩
  refine g_lv [(0, .ref m), (1, .long (lI z)), (3, .int (iI ((0 : Nat) : Int)))] ⟨rfl, rfl, rfl, trivial⟩ ?_
  exact loop (gn + 1) 0  (by omega) (by omega) (fun j hj => by omega)
  

abbrev rm_MD_global : Room := { frames := 2, cells := 0, slots := 0, locals := 51 }
set_option maxHeartbeats 4000000 in
set_option maxRecDepth 100000 in
theorem c_MD_global (l : Launch) (E : gE) (m : Nat) (A : Nat → Nat) (gn ln n kn sn dn : Nat) (mt mg : Int) (G : Nat → Int) (z : Int) (hz : gil z) (hgn : gn ≤ 200) (hG : ∀ j, j < gn → gil (G j)) : Ct l E y_MD_global b_MD_global 3 (some .int) rm_MD_global [.ref m, .long (lI z)] (mdO m A gn ln n kn sn dn mt mg ++ mG E A G) (fun vv ww dc ds => (okName z ∧ fnd gn G z = -1 ∧ gn < 200 ∧ vv = some (.int (iI (gn : Int))) ∧ ww = mdO m A (gn + 1) ln n kn sn dn mt mg ++ mG E A (uZ G gn z) ∧ dc = 0 ∧ ds = 0) ∨ (¬ (okName z ∧ fnd gn G z = -1 ∧ gn < 200) ∧ vv = some (.int (iI (-1))) ∧ ww = mdO m A gn ln n kn sn dn mt mg ++ mG E A G ∧ dc = 0 ∧ ds = 0)) := by
  have hfi := fnd_in gn G z
  refine g_start (by decide) (Nat.le_of_ble_eq_true rfl) (fun X hX hE hin => ?_)
  refine g_lload_n (pc := 0) hX 1 d_MD_global_0 rfl rfl ?_
  refine g_iconst (pc := 1) hX d_MD_global_1 ?_
  refine g_iS (pc := 2) hX (c_MD_isName l E _ (by omega) ()) gy_MD_isName w_531 w_530 rfl (by decide) (by decide) [] rfl (by decide +kernel) _ rfl (Nat.le_of_ble_eq_true rfl) d_MD_global_2 (by decide) (by decide) ?_
  refine g_beq (pc := 5) (tgt := 27) hX d_MD_global_5 (by decide) (fun c_1 => ?_) (fun c_1 => ?_)
  · refine g_iconst (pc := 27) hX d_MD_global_27 ?_
    exact g_iret (pc := 28) hX hE d_MD_global_28 (by decide) (by decide) (Or.inr ⟨fun q => by
      obtain ⟨q1, q2, q3⟩ := q
      first | (exact absurd q1 (by assumption)) | omega, rfl, rfl, rfl, rfl⟩)
  · refine g_aload_n (pc := 8) hX 0 d_MD_global_8 rfl rfl ?_
    refine g_lload_n (pc := 9) hX 1 d_MD_global_9 rfl rfl ?_
    refine g_iV (pc := 10) hX (c_MD_globalOf l E m A gn ln n kn sn dn mt mg G _ (by omega) (by omega) hG) gy_MD_globalOf gv_MD_globalOf w_541 rfl (by decide) (by decide) [0, 1] rfl (by decide +kernel) rfl rfl rfl _ rfl (Nat.le_of_ble_eq_true rfl) d_MD_global_10 (by decide) (by decide) ?_
    refine g_iconst (pc := 13) hX d_MD_global_13 ?_
    refine g_icmp_ne (pc := 14) (tgt := 27) hX d_MD_global_14 (by decide) (by omega) (by omega) (fun c_2 => ?_) (fun c_2 => ?_)
    · refine g_iconst (pc := 27) hX d_MD_global_27 ?_
      exact g_iret (pc := 28) hX hE d_MD_global_28 (by decide) (by decide) (Or.inr ⟨fun q => by
      obtain ⟨q1, q2, q3⟩ := q
      first | (exact absurd q1 (by assumption)) | omega, rfl, rfl, rfl, rfl⟩)
    · refine g_aload_n (pc := 17) hX 0 d_MD_global_17 rfl rfl ?_
      refine g_get (pc := 18) hX f_MD_71 0 rfl rfl d_MD_global_18 ?_
      refine g_sipush (pc := 21) hX 200 d_MD_global_21 (by decide) ?_
      refine g_icmp_ne (pc := 24) (tgt := 29) hX d_MD_global_24 (by decide) (by omega) (by omega) (fun c_3 => ?_) (fun c_3 => ?_)
      · refine g_aload_n (pc := 29) hX 0 d_MD_global_29 rfl rfl ?_
        refine g_get (pc := 30) hX f_MD_7 0 rfl rfl d_MD_global_30 ?_
        refine g_aload_n (pc := 33) hX 0 d_MD_global_33 rfl rfl ?_
        refine g_get (pc := 34) hX f_MD_71 0 rfl rfl d_MD_global_34 ?_
        refine g_lload_n (pc := 37) hX 1 d_MD_global_37 rfl rfl ?_
        refine g_lasN (pc := 38) hX 1 (k := gn) (x := z) rfl (by omega) d_MD_global_38 ?_
        refine g_ws (mdO m A gn ln n kn sn dn mt mg ++ mG E A (uZ G gn z)) rfl ?_
        refine g_aload_n (pc := 39) hX 0 d_MD_global_39 rfl rfl ?_
        refine g_dup (pc := 40) hX d_MD_global_40 rfl ?_
        refine g_get (pc := 41) hX f_MD_71 0 rfl rfl d_MD_global_41 ?_
        refine g_iconst (pc := 44) hX d_MD_global_44 ?_
        refine g_iadd (pc := 45) hX d_MD_global_45 ?_
        refine g_put (pc := 46) hX f_MD_71 gt_MD 0 rfl rfl rfl rfl (Nat.le_of_ble_eq_true rfl) d_MD_global_46 ?_
        refine g_ws (mdO m A (gn + 1) ln n kn sn dn mt mg ++ mG E A (uZ G gn z)) rfl ?_
        refine g_aload_n (pc := 49) hX 0 d_MD_global_49 rfl rfl ?_
        refine g_get (pc := 50) hX f_MD_71 0 rfl rfl d_MD_global_50 ?_
        refine g_iconst (pc := 53) hX d_MD_global_53 ?_
        refine g_isub (pc := 54) hX d_MD_global_54 ?_
        exact g_iret (pc := 55) hX hE d_MD_global_55 (by decide) (by decide) (Or.inl ⟨c_1, by omega, by omega, by rw [show (((gn + 1 : Nat) : Int) - 1) = (gn : Int) by omega], rfl, rfl, rfl⟩)
      · refine g_iconst (pc := 27) hX d_MD_global_27 ?_
        exact g_iret (pc := 28) hX hE d_MD_global_28 (by decide) (by decide) (Or.inr ⟨fun q => by
      obtain ⟨q1, q2, q3⟩ := q
      first | (exact absurd q1 (by assumption)) | omega, rfl, rfl, rfl, rfl⟩)

abbrev rm_MD_hasParts : Room := { frames := 0, cells := 0, slots := 0, locals := 0 }
set_option maxHeartbeats 4000000 in
set_option maxRecDepth 100000 in
theorem c_MD_hasParts (l : Launch) (E : gE) (k : Int) (hk : gin k) : CtI l E y_MD_hasParts b_MD_hasParts 1 (some .boolean) rm_MD_hasParts [.int (iI k)] ([]) (bZ (k ≠ 0 ∧ k ≠ 5 ∧ k ≠ 7)) := by
  refine g_start (by decide) (Nat.le_of_ble_eq_true rfl) (fun X hX hE hin => ?_)
  refine g_iload_n (pc := 0) hX 0 d_MD_hasParts_0 rfl rfl ?_
  refine g_if_eq (pc := 1) (tgt := 19) hX d_MD_hasParts_1 (by decide) (by omega) (fun c_1 => ?_) (fun c_1 => ?_)
  · refine g_iconst (pc := 19) hX d_MD_hasParts_19 ?_
    exact g_zret (pc := 20) hX hE (by first | exact Or.inl rfl | exact Or.inr rfl | exact bZ_01 _) d_MD_hasParts_20 (by decide) (by decide) ⟨by rw [bZ_f (by omega)], rfl, rfl, rfl⟩
  · refine g_iload_n (pc := 4) hX 0 d_MD_hasParts_4 rfl rfl ?_
    refine g_iconst (pc := 5) hX d_MD_hasParts_5 ?_
    refine g_icmp_eq (pc := 6) (tgt := 19) hX d_MD_hasParts_6 (by decide) (by omega) (by omega) (fun c_2 => ?_) (fun c_2 => ?_)
    · refine g_iconst (pc := 19) hX d_MD_hasParts_19 ?_
      exact g_zret (pc := 20) hX hE (by first | exact Or.inl rfl | exact Or.inr rfl | exact bZ_01 _) d_MD_hasParts_20 (by decide) (by decide) ⟨by rw [bZ_f (by omega)], rfl, rfl, rfl⟩
    · refine g_iload_n (pc := 9) hX 0 d_MD_hasParts_9 rfl rfl ?_
      refine g_bipush (pc := 10) hX 7 d_MD_hasParts_10 (by decide) ?_
      refine g_icmp_eq (pc := 12) (tgt := 19) hX d_MD_hasParts_12 (by decide) (by omega) (by omega) (fun c_3 => ?_) (fun c_3 => ?_)
      · refine g_iconst (pc := 19) hX d_MD_hasParts_19 ?_
        exact g_zret (pc := 20) hX hE (by first | exact Or.inl rfl | exact Or.inr rfl | exact bZ_01 _) d_MD_hasParts_20 (by decide) (by decide) ⟨by rw [bZ_f (by omega)], rfl, rfl, rfl⟩
      · refine g_iconst (pc := 15) hX d_MD_hasParts_15 ?_
        refine g_goto (pc := 16) (tgt := 20) hX d_MD_hasParts_16 (by decide) ?_
        exact g_zret (pc := 20) hX hE (by first | exact Or.inl rfl | exact Or.inr rfl | exact bZ_01 _) d_MD_hasParts_20 (by decide) (by decide) ⟨by rw [bZ_t (by omega)], rfl, rfl, rfl⟩

abbrev rm_MD_binds : Room := { frames := 0, cells := 0, slots := 0, locals := 0 }
set_option maxHeartbeats 4000000 in
set_option maxRecDepth 100000 in
theorem c_MD_binds (l : Launch) (E : gE) (k : Int) (hk : gin k) : CtI l E y_MD_binds b_MD_binds 1 (some .boolean) rm_MD_binds [.int (iI k)] ([]) (bZ (bP k)) := by
  refine g_start (by decide) (Nat.le_of_ble_eq_true rfl) (fun X hX hE hin => ?_)
  refine g_iload_n (pc := 0) hX 0 d_MD_binds_0 rfl rfl ?_
  refine g_iconst (pc := 1) hX d_MD_binds_1 ?_
  refine g_icmp_eq (pc := 2) (tgt := 21) hX d_MD_binds_2 (by decide) (by omega) (by omega) (fun c_1 => ?_) (fun c_1 => ?_)
  · refine g_iconst (pc := 21) hX d_MD_binds_21 ?_
    refine g_goto (pc := 22) (tgt := 26) hX d_MD_binds_22 (by decide) ?_
    exact g_zret (pc := 26) hX hE (by first | exact Or.inl rfl | exact Or.inr rfl | exact bZ_01 _) d_MD_binds_26 (by decide) (by decide) ⟨by rw [bZ_t (by omega)], rfl, rfl, rfl⟩
  · refine g_iload_n (pc := 5) hX 0 d_MD_binds_5 rfl rfl ?_
    refine g_iconst (pc := 6) hX d_MD_binds_6 ?_
    refine g_icmp_eq (pc := 7) (tgt := 21) hX d_MD_binds_7 (by decide) (by omega) (by omega) (fun c_2 => ?_) (fun c_2 => ?_)
    · refine g_iconst (pc := 21) hX d_MD_binds_21 ?_
      refine g_goto (pc := 22) (tgt := 26) hX d_MD_binds_22 (by decide) ?_
      exact g_zret (pc := 26) hX hE (by first | exact Or.inl rfl | exact Or.inr rfl | exact bZ_01 _) d_MD_binds_26 (by decide) (by decide) ⟨by rw [bZ_t (by omega)], rfl, rfl, rfl⟩
    · refine g_iload_n (pc := 10) hX 0 d_MD_binds_10 rfl rfl ?_
      refine g_iconst (pc := 11) hX d_MD_binds_11 ?_
      refine g_icmp_eq (pc := 12) (tgt := 21) hX d_MD_binds_12 (by decide) (by omega) (by omega) (fun c_3 => ?_) (fun c_3 => ?_)
      · refine g_iconst (pc := 21) hX d_MD_binds_21 ?_
        refine g_goto (pc := 22) (tgt := 26) hX d_MD_binds_22 (by decide) ?_
        exact g_zret (pc := 26) hX hE (by first | exact Or.inl rfl | exact Or.inr rfl | exact bZ_01 _) d_MD_binds_26 (by decide) (by decide) ⟨by rw [bZ_t (by omega)], rfl, rfl, rfl⟩
      · refine g_iload_n (pc := 15) hX 0 d_MD_binds_15 rfl rfl ?_
        refine g_bipush (pc := 16) hX 6 d_MD_binds_16 (by decide) ?_
        refine g_icmp_ne (pc := 18) (tgt := 25) hX d_MD_binds_18 (by decide) (by omega) (by omega) (fun c_4 => ?_) (fun c_4 => ?_)
        · refine g_iconst (pc := 25) hX d_MD_binds_25 ?_
          exact g_zret (pc := 26) hX hE (by first | exact Or.inl rfl | exact Or.inr rfl | exact bZ_01 _) d_MD_binds_26 (by decide) (by decide) ⟨by rw [bZ_f (by omega)], rfl, rfl, rfl⟩
        · refine g_iconst (pc := 21) hX d_MD_binds_21 ?_
          refine g_goto (pc := 22) (tgt := 26) hX d_MD_binds_22 (by decide) ?_
          exact g_zret (pc := 26) hX hE (by first | exact Or.inl rfl | exact Or.inr rfl | exact bZ_01 _) d_MD_binds_26 (by decide) (by decide) ⟨by rw [bZ_t (by omega)], rfl, rfl, rfl⟩

abbrev rm_MD_lay : Room := { frames := 2, cells := 0, slots := 0, locals := 51 }
set_option maxHeartbeats 4000000 in
set_option maxRecDepth 100000 in
theorem c_MD_lay (l : Launch) (E : gE) (m : Nat) (A : Nat → Nat) (gn ln n kn sn dn : Nat) (mt mg : Int) (LK LB : Nat → Int) (k : Int) (hk : gin k) (z : Int) (hz : gil z) (hln : ln ≤ 3000) : Ct l E y_MD_lay b_MD_lay 5 (some .int) rm_MD_lay [.ref m, .int (iI k), .long (lI z)] (mdO m A gn ln n kn sn dn mt mg ++ mI E A 1 LK ++ mL E A 2 LB) (fun vv ww dc ds => (okBes k z ∧ ln < 3000 ∧ vv = some (.int (iI ((ln + 1 : Nat) : Int))) ∧ ww = mdO m A gn (ln + 1) n kn sn dn mt mg ++ mI E A 1 (uZ LK ln k) ++ mL E A 2 (uZ LB ln z) ∧ dc = 0 ∧ ds = 0) ∨ (¬ (okBes k z ∧ ln < 3000) ∧ vv = some (.int (iI (-1))) ∧ ww = mdO m A gn ln n kn sn dn mt mg ++ mI E A 1 LK ++ mL E A 2 LB ∧ dc = 0 ∧ ds = 0)) := by
  refine g_start (by decide) (Nat.le_of_ble_eq_true rfl) (fun X hX hE hin => ?_)
  refine g_iload_n (pc := 0) hX 1 d_MD_lay_0 rfl rfl ?_
  refine g_if_lt (pc := 1) (tgt := 17) hX d_MD_lay_1 (by decide) (by omega) (fun c_1 => ?_) (fun c_1 => ?_)
  · refine g_iload_n (pc := 17) hX 1 d_MD_lay_17 rfl rfl ?_
    refine g_iconst (pc := 18) hX d_MD_lay_18 ?_
    refine g_icmp_ne (pc := 19) (tgt := 44) hX d_MD_lay_19 (by decide) (by omega) (by omega) (fun c_2 => ?_) (fun c_2 => ?_)
    · refine g_iload_n (pc := 44) hX 1 d_MD_lay_44 rfl rfl ?_
      refine g_iconst (pc := 45) hX d_MD_lay_45 ?_
      refine g_icmp_eq (pc := 46) (tgt := 55) hX d_MD_lay_46 (by decide) (by omega) (by omega) (fun c_3 => ?_) (fun c_3 => ?_)
      · refine g_lload_n (pc := 55) hX 2 d_MD_lay_55 rfl rfl ?_
        refine g_lconst (pc := 56) hX 0 d_MD_lay_56 (by decide) ?_
        refine g_lcmp_ne (pc := 57) (tgt := 65) hX d_MD_lay_57 d_MD_lay_58 (by decide) (by omega) (by omega) (fun c_4 => ?_) (fun c_4 => ?_)
        · refine g_iconst (pc := 65) hX d_MD_lay_65 ?_
          have hb : ¬ okBes k z := by
            intro q
            rcases q with q | q | q
            · have := q.1; have := q.2.1; omega
            · omega
            · omega
          refine g_istore (pc := 66) hX d_MD_lay_66 (by decide) ?_
          refine g_iload (pc := 68) hX d_MD_lay_68 rfl ?_
          refine g_if_eq (pc := 70) (tgt := 83) hX d_MD_lay_70 (by decide) (by decide) (fun c_5 => ?_) (fun c_5 => ?_)
          · refine g_iconst (pc := 83) hX d_MD_lay_83 ?_
            exact g_iret (pc := 84) hX hE d_MD_lay_84 (by decide) (by decide) (Or.inr ⟨fun q => hb q.1, rfl, rfl, rfl, rfl⟩)
          · exact absurd (by decide) c_5
        · refine g_iconst (pc := 61) hX d_MD_lay_61 ?_
          refine g_goto (pc := 62) (tgt := 66) hX d_MD_lay_62 (by decide) ?_
          have hb : okBes k z := by first | (have e5 : k = 5 := (by omega); subst e5; exact okBes_5.mp (by omega)) | exact (okBes_46 (by omega)).mp (by omega)
          refine g_istore (pc := 66) hX d_MD_lay_66 (by decide) ?_
          refine g_iload (pc := 68) hX d_MD_lay_68 rfl ?_
          refine g_if_eq (pc := 70) (tgt := 83) hX d_MD_lay_70 (by decide) (by decide) (fun c_6 => ?_) (fun c_6 => ?_)
          · exact absurd c_6 (by decide)
          · refine g_aload_n (pc := 73) hX 0 d_MD_lay_73 rfl rfl ?_
            refine g_get (pc := 74) hX f_MD_83 0 rfl rfl d_MD_lay_74 ?_
            refine g_sipush (pc := 77) hX 3000 d_MD_lay_77 (by decide) ?_
            refine g_icmp_ne (pc := 80) (tgt := 85) hX d_MD_lay_80 (by decide) (by omega) (by omega) (fun c_7 => ?_) (fun c_7 => ?_)
            · refine g_aload_n (pc := 85) hX 0 d_MD_lay_85 rfl rfl ?_
              refine g_get (pc := 86) hX f_MD_13 0 rfl rfl d_MD_lay_86 ?_
              refine g_aload_n (pc := 89) hX 0 d_MD_lay_89 rfl rfl ?_
              refine g_get (pc := 90) hX f_MD_83 0 rfl rfl d_MD_lay_90 ?_
              refine g_iload_n (pc := 93) hX 1 d_MD_lay_93 rfl rfl ?_
              refine g_iasN (pc := 94) hX 1 (k := ln) (x := k) rfl (by omega) d_MD_lay_94 ?_
              refine g_ws (mdO m A gn ln n kn sn dn mt mg ++ mI E A 1 (uZ LK ln k) ++ mL E A 2 LB) rfl ?_
              refine g_aload_n (pc := 95) hX 0 d_MD_lay_95 rfl rfl ?_
              refine g_get (pc := 96) hX f_MD_17 0 rfl rfl d_MD_lay_96 ?_
              refine g_aload_n (pc := 99) hX 0 d_MD_lay_99 rfl rfl ?_
              refine g_get (pc := 100) hX f_MD_83 0 rfl rfl d_MD_lay_100 ?_
              refine g_lload_n (pc := 103) hX 2 d_MD_lay_103 rfl rfl ?_
              refine g_lasN (pc := 104) hX 2 (k := ln) (x := z) rfl (by omega) d_MD_lay_104 ?_
              refine g_ws (mdO m A gn ln n kn sn dn mt mg ++ mI E A 1 (uZ LK ln k) ++ mL E A 2 (uZ LB ln z)) rfl ?_
              refine g_aload_n (pc := 105) hX 0 d_MD_lay_105 rfl rfl ?_
              refine g_dup (pc := 106) hX d_MD_lay_106 rfl ?_
              refine g_get (pc := 107) hX f_MD_83 0 rfl rfl d_MD_lay_107 ?_
              refine g_iconst (pc := 110) hX d_MD_lay_110 ?_
              refine g_iadd (pc := 111) hX d_MD_lay_111 ?_
              refine g_put (pc := 112) hX f_MD_83 gt_MD 0 rfl rfl rfl rfl (Nat.le_of_ble_eq_true rfl) d_MD_lay_112 ?_
              refine g_ws (mdO m A gn (ln + 1) n kn sn dn mt mg ++ mI E A 1 (uZ LK ln k) ++ mL E A 2 (uZ LB ln z)) rfl ?_
              refine g_aload_n (pc := 115) hX 0 d_MD_lay_115 rfl rfl ?_
              refine g_get (pc := 116) hX f_MD_83 0 rfl rfl d_MD_lay_116 ?_
              exact g_iret (pc := 119) hX hE d_MD_lay_119 (by decide) (by decide) (Or.inl ⟨hb, by omega, rfl, rfl, rfl, rfl⟩)
            · refine g_iconst (pc := 83) hX d_MD_lay_83 ?_
              exact g_iret (pc := 84) hX hE d_MD_lay_84 (by decide) (by decide) (Or.inr ⟨fun q => by have q2 := q.2; omega, rfl, rfl, rfl, rfl⟩)
      · refine g_iload_n (pc := 49) hX 1 d_MD_lay_49 rfl rfl ?_
        refine g_bipush (pc := 50) hX 6 d_MD_lay_50 (by decide) ?_
        refine g_icmp_ne (pc := 52) (tgt := 65) hX d_MD_lay_52 (by decide) (by omega) (by omega) (fun c_8 => ?_) (fun c_8 => ?_)
        · refine g_iconst (pc := 65) hX d_MD_lay_65 ?_
          have hb : ¬ okBes k z := by
            intro q
            rcases q with q | q | q
            · have := q.1; have := q.2.1; omega
            · omega
            · omega
          refine g_istore (pc := 66) hX d_MD_lay_66 (by decide) ?_
          refine g_iload (pc := 68) hX d_MD_lay_68 rfl ?_
          refine g_if_eq (pc := 70) (tgt := 83) hX d_MD_lay_70 (by decide) (by decide) (fun c_9 => ?_) (fun c_9 => ?_)
          · refine g_iconst (pc := 83) hX d_MD_lay_83 ?_
            exact g_iret (pc := 84) hX hE d_MD_lay_84 (by decide) (by decide) (Or.inr ⟨fun q => hb q.1, rfl, rfl, rfl, rfl⟩)
          · exact absurd (by decide) c_9
        · refine g_lload_n (pc := 55) hX 2 d_MD_lay_55 rfl rfl ?_
          refine g_lconst (pc := 56) hX 0 d_MD_lay_56 (by decide) ?_
          refine g_lcmp_ne (pc := 57) (tgt := 65) hX d_MD_lay_57 d_MD_lay_58 (by decide) (by omega) (by omega) (fun c_10 => ?_) (fun c_10 => ?_)
          · refine g_iconst (pc := 65) hX d_MD_lay_65 ?_
            have hb : ¬ okBes k z := by
              intro q
              rcases q with q | q | q
              · have := q.1; have := q.2.1; omega
              · omega
              · omega
            refine g_istore (pc := 66) hX d_MD_lay_66 (by decide) ?_
            refine g_iload (pc := 68) hX d_MD_lay_68 rfl ?_
            refine g_if_eq (pc := 70) (tgt := 83) hX d_MD_lay_70 (by decide) (by decide) (fun c_11 => ?_) (fun c_11 => ?_)
            · refine g_iconst (pc := 83) hX d_MD_lay_83 ?_
              exact g_iret (pc := 84) hX hE d_MD_lay_84 (by decide) (by decide) (Or.inr ⟨fun q => hb q.1, rfl, rfl, rfl, rfl⟩)
            · exact absurd (by decide) c_11
          · refine g_iconst (pc := 61) hX d_MD_lay_61 ?_
            refine g_goto (pc := 62) (tgt := 66) hX d_MD_lay_62 (by decide) ?_
            have hb : okBes k z := by first | (have e5 : k = 5 := (by omega); subst e5; exact okBes_5.mp (by omega)) | exact (okBes_46 (by omega)).mp (by omega)
            refine g_istore (pc := 66) hX d_MD_lay_66 (by decide) ?_
            refine g_iload (pc := 68) hX d_MD_lay_68 rfl ?_
            refine g_if_eq (pc := 70) (tgt := 83) hX d_MD_lay_70 (by decide) (by decide) (fun c_12 => ?_) (fun c_12 => ?_)
            · exact absurd c_12 (by decide)
            · refine g_aload_n (pc := 73) hX 0 d_MD_lay_73 rfl rfl ?_
              refine g_get (pc := 74) hX f_MD_83 0 rfl rfl d_MD_lay_74 ?_
              refine g_sipush (pc := 77) hX 3000 d_MD_lay_77 (by decide) ?_
              refine g_icmp_ne (pc := 80) (tgt := 85) hX d_MD_lay_80 (by decide) (by omega) (by omega) (fun c_13 => ?_) (fun c_13 => ?_)
              · refine g_aload_n (pc := 85) hX 0 d_MD_lay_85 rfl rfl ?_
                refine g_get (pc := 86) hX f_MD_13 0 rfl rfl d_MD_lay_86 ?_
                refine g_aload_n (pc := 89) hX 0 d_MD_lay_89 rfl rfl ?_
                refine g_get (pc := 90) hX f_MD_83 0 rfl rfl d_MD_lay_90 ?_
                refine g_iload_n (pc := 93) hX 1 d_MD_lay_93 rfl rfl ?_
                refine g_iasN (pc := 94) hX 1 (k := ln) (x := k) rfl (by omega) d_MD_lay_94 ?_
                refine g_ws (mdO m A gn ln n kn sn dn mt mg ++ mI E A 1 (uZ LK ln k) ++ mL E A 2 LB) rfl ?_
                refine g_aload_n (pc := 95) hX 0 d_MD_lay_95 rfl rfl ?_
                refine g_get (pc := 96) hX f_MD_17 0 rfl rfl d_MD_lay_96 ?_
                refine g_aload_n (pc := 99) hX 0 d_MD_lay_99 rfl rfl ?_
                refine g_get (pc := 100) hX f_MD_83 0 rfl rfl d_MD_lay_100 ?_
                refine g_lload_n (pc := 103) hX 2 d_MD_lay_103 rfl rfl ?_
                refine g_lasN (pc := 104) hX 2 (k := ln) (x := z) rfl (by omega) d_MD_lay_104 ?_
                refine g_ws (mdO m A gn ln n kn sn dn mt mg ++ mI E A 1 (uZ LK ln k) ++ mL E A 2 (uZ LB ln z)) rfl ?_
                refine g_aload_n (pc := 105) hX 0 d_MD_lay_105 rfl rfl ?_
                refine g_dup (pc := 106) hX d_MD_lay_106 rfl ?_
                refine g_get (pc := 107) hX f_MD_83 0 rfl rfl d_MD_lay_107 ?_
                refine g_iconst (pc := 110) hX d_MD_lay_110 ?_
                refine g_iadd (pc := 111) hX d_MD_lay_111 ?_
                refine g_put (pc := 112) hX f_MD_83 gt_MD 0 rfl rfl rfl rfl (Nat.le_of_ble_eq_true rfl) d_MD_lay_112 ?_
                refine g_ws (mdO m A gn (ln + 1) n kn sn dn mt mg ++ mI E A 1 (uZ LK ln k) ++ mL E A 2 (uZ LB ln z)) rfl ?_
                refine g_aload_n (pc := 115) hX 0 d_MD_lay_115 rfl rfl ?_
                refine g_get (pc := 116) hX f_MD_83 0 rfl rfl d_MD_lay_116 ?_
                exact g_iret (pc := 119) hX hE d_MD_lay_119 (by decide) (by decide) (Or.inl ⟨hb, by omega, rfl, rfl, rfl, rfl⟩)
              · refine g_iconst (pc := 83) hX d_MD_lay_83 ?_
                exact g_iret (pc := 84) hX hE d_MD_lay_84 (by decide) (by decide) (Or.inr ⟨fun q => by have q2 := q.2; omega, rfl, rfl, rfl, rfl⟩)
    · refine g_lload_n (pc := 22) hX 2 d_MD_lay_22 rfl rfl ?_
      refine g_lconst (pc := 23) hX 0 d_MD_lay_23 (by decide) ?_
      refine g_lcmp_lt (pc := 24) (tgt := 40) hX d_MD_lay_24 d_MD_lay_25 (by decide) (by omega) (by omega) (fun c_14 => ?_) (fun c_14 => ?_)
      · refine g_iconst (pc := 40) hX d_MD_lay_40 ?_
        refine g_goto (pc := 41) (tgt := 66) hX d_MD_lay_41 (by decide) ?_
        have hb : ¬ okBes k z := by
          intro q
          rcases q with q | q | q
          · have := q.1; have := q.2.1; omega
          · omega
          · omega
        refine g_istore (pc := 66) hX d_MD_lay_66 (by decide) ?_
        refine g_iload (pc := 68) hX d_MD_lay_68 rfl ?_
        refine g_if_eq (pc := 70) (tgt := 83) hX d_MD_lay_70 (by decide) (by decide) (fun c_15 => ?_) (fun c_15 => ?_)
        · refine g_iconst (pc := 83) hX d_MD_lay_83 ?_
          exact g_iret (pc := 84) hX hE d_MD_lay_84 (by decide) (by decide) (Or.inr ⟨fun q => hb q.1, rfl, rfl, rfl, rfl⟩)
        · exact absurd (by decide) c_15
      · refine g_lload_n (pc := 28) hX 2 d_MD_lay_28 rfl rfl ?_
        refine g_ldc2 (pc := 29) hX 100 w_549 (by decide) d_MD_lay_29 ?_
        refine g_lcmp_gt (pc := 32) (tgt := 40) hX d_MD_lay_32 d_MD_lay_33 (by decide) (by omega) (by omega) (fun c_16 => ?_) (fun c_16 => ?_)
        · refine g_iconst (pc := 40) hX d_MD_lay_40 ?_
          refine g_goto (pc := 41) (tgt := 66) hX d_MD_lay_41 (by decide) ?_
          have hb : ¬ okBes k z := by
            intro q
            rcases q with q | q | q
            · have := q.1; have := q.2.1; omega
            · omega
            · omega
          refine g_istore (pc := 66) hX d_MD_lay_66 (by decide) ?_
          refine g_iload (pc := 68) hX d_MD_lay_68 rfl ?_
          refine g_if_eq (pc := 70) (tgt := 83) hX d_MD_lay_70 (by decide) (by decide) (fun c_17 => ?_) (fun c_17 => ?_)
          · refine g_iconst (pc := 83) hX d_MD_lay_83 ?_
            exact g_iret (pc := 84) hX hE d_MD_lay_84 (by decide) (by decide) (Or.inr ⟨fun q => hb q.1, rfl, rfl, rfl, rfl⟩)
          · exact absurd (by decide) c_17
        · refine g_iconst (pc := 36) hX d_MD_lay_36 ?_
          refine g_goto (pc := 37) (tgt := 66) hX d_MD_lay_37 (by decide) ?_
          have hb : okBes k z := by first | (have e5 : k = 5 := (by omega); subst e5; exact okBes_5.mp (by omega)) | exact (okBes_46 (by omega)).mp (by omega)
          refine g_istore (pc := 66) hX d_MD_lay_66 (by decide) ?_
          refine g_iload (pc := 68) hX d_MD_lay_68 rfl ?_
          refine g_if_eq (pc := 70) (tgt := 83) hX d_MD_lay_70 (by decide) (by decide) (fun c_18 => ?_) (fun c_18 => ?_)
          · exact absurd c_18 (by decide)
          · refine g_aload_n (pc := 73) hX 0 d_MD_lay_73 rfl rfl ?_
            refine g_get (pc := 74) hX f_MD_83 0 rfl rfl d_MD_lay_74 ?_
            refine g_sipush (pc := 77) hX 3000 d_MD_lay_77 (by decide) ?_
            refine g_icmp_ne (pc := 80) (tgt := 85) hX d_MD_lay_80 (by decide) (by omega) (by omega) (fun c_19 => ?_) (fun c_19 => ?_)
            · refine g_aload_n (pc := 85) hX 0 d_MD_lay_85 rfl rfl ?_
              refine g_get (pc := 86) hX f_MD_13 0 rfl rfl d_MD_lay_86 ?_
              refine g_aload_n (pc := 89) hX 0 d_MD_lay_89 rfl rfl ?_
              refine g_get (pc := 90) hX f_MD_83 0 rfl rfl d_MD_lay_90 ?_
              refine g_iload_n (pc := 93) hX 1 d_MD_lay_93 rfl rfl ?_
              refine g_iasN (pc := 94) hX 1 (k := ln) (x := k) rfl (by omega) d_MD_lay_94 ?_
              refine g_ws (mdO m A gn ln n kn sn dn mt mg ++ mI E A 1 (uZ LK ln k) ++ mL E A 2 LB) rfl ?_
              refine g_aload_n (pc := 95) hX 0 d_MD_lay_95 rfl rfl ?_
              refine g_get (pc := 96) hX f_MD_17 0 rfl rfl d_MD_lay_96 ?_
              refine g_aload_n (pc := 99) hX 0 d_MD_lay_99 rfl rfl ?_
              refine g_get (pc := 100) hX f_MD_83 0 rfl rfl d_MD_lay_100 ?_
              refine g_lload_n (pc := 103) hX 2 d_MD_lay_103 rfl rfl ?_
              refine g_lasN (pc := 104) hX 2 (k := ln) (x := z) rfl (by omega) d_MD_lay_104 ?_
              refine g_ws (mdO m A gn ln n kn sn dn mt mg ++ mI E A 1 (uZ LK ln k) ++ mL E A 2 (uZ LB ln z)) rfl ?_
              refine g_aload_n (pc := 105) hX 0 d_MD_lay_105 rfl rfl ?_
              refine g_dup (pc := 106) hX d_MD_lay_106 rfl ?_
              refine g_get (pc := 107) hX f_MD_83 0 rfl rfl d_MD_lay_107 ?_
              refine g_iconst (pc := 110) hX d_MD_lay_110 ?_
              refine g_iadd (pc := 111) hX d_MD_lay_111 ?_
              refine g_put (pc := 112) hX f_MD_83 gt_MD 0 rfl rfl rfl rfl (Nat.le_of_ble_eq_true rfl) d_MD_lay_112 ?_
              refine g_ws (mdO m A gn (ln + 1) n kn sn dn mt mg ++ mI E A 1 (uZ LK ln k) ++ mL E A 2 (uZ LB ln z)) rfl ?_
              refine g_aload_n (pc := 115) hX 0 d_MD_lay_115 rfl rfl ?_
              refine g_get (pc := 116) hX f_MD_83 0 rfl rfl d_MD_lay_116 ?_
              exact g_iret (pc := 119) hX hE d_MD_lay_119 (by decide) (by decide) (Or.inl ⟨hb, by omega, rfl, rfl, rfl, rfl⟩)
            · refine g_iconst (pc := 83) hX d_MD_lay_83 ?_
              exact g_iret (pc := 84) hX hE d_MD_lay_84 (by decide) (by decide) (Or.inr ⟨fun q => by have q2 := q.2; omega, rfl, rfl, rfl, rfl⟩)
  · refine g_iload_n (pc := 4) hX 1 d_MD_lay_4 rfl rfl ?_
    refine g_iconst (pc := 5) hX d_MD_lay_5 ?_
    refine g_icmp_ge (pc := 6) (tgt := 17) hX d_MD_lay_6 (by decide) (by omega) (by omega) (fun c_20 => ?_) (fun c_20 => ?_)
    · refine g_iload_n (pc := 17) hX 1 d_MD_lay_17 rfl rfl ?_
      refine g_iconst (pc := 18) hX d_MD_lay_18 ?_
      refine g_icmp_ne (pc := 19) (tgt := 44) hX d_MD_lay_19 (by decide) (by omega) (by omega) (fun c_21 => ?_) (fun c_21 => ?_)
      · refine g_iload_n (pc := 44) hX 1 d_MD_lay_44 rfl rfl ?_
        refine g_iconst (pc := 45) hX d_MD_lay_45 ?_
        refine g_icmp_eq (pc := 46) (tgt := 55) hX d_MD_lay_46 (by decide) (by omega) (by omega) (fun c_22 => ?_) (fun c_22 => ?_)
        · refine g_lload_n (pc := 55) hX 2 d_MD_lay_55 rfl rfl ?_
          refine g_lconst (pc := 56) hX 0 d_MD_lay_56 (by decide) ?_
          refine g_lcmp_ne (pc := 57) (tgt := 65) hX d_MD_lay_57 d_MD_lay_58 (by decide) (by omega) (by omega) (fun c_23 => ?_) (fun c_23 => ?_)
          · refine g_iconst (pc := 65) hX d_MD_lay_65 ?_
            have hb : ¬ okBes k z := by
              intro q
              rcases q with q | q | q
              · have := q.1; have := q.2.1; omega
              · omega
              · omega
            refine g_istore (pc := 66) hX d_MD_lay_66 (by decide) ?_
            refine g_iload (pc := 68) hX d_MD_lay_68 rfl ?_
            refine g_if_eq (pc := 70) (tgt := 83) hX d_MD_lay_70 (by decide) (by decide) (fun c_24 => ?_) (fun c_24 => ?_)
            · refine g_iconst (pc := 83) hX d_MD_lay_83 ?_
              exact g_iret (pc := 84) hX hE d_MD_lay_84 (by decide) (by decide) (Or.inr ⟨fun q => hb q.1, rfl, rfl, rfl, rfl⟩)
            · exact absurd (by decide) c_24
          · refine g_iconst (pc := 61) hX d_MD_lay_61 ?_
            refine g_goto (pc := 62) (tgt := 66) hX d_MD_lay_62 (by decide) ?_
            have hb : okBes k z := by first | (have e5 : k = 5 := (by omega); subst e5; exact okBes_5.mp (by omega)) | exact (okBes_46 (by omega)).mp (by omega)
            refine g_istore (pc := 66) hX d_MD_lay_66 (by decide) ?_
            refine g_iload (pc := 68) hX d_MD_lay_68 rfl ?_
            refine g_if_eq (pc := 70) (tgt := 83) hX d_MD_lay_70 (by decide) (by decide) (fun c_25 => ?_) (fun c_25 => ?_)
            · exact absurd c_25 (by decide)
            · refine g_aload_n (pc := 73) hX 0 d_MD_lay_73 rfl rfl ?_
              refine g_get (pc := 74) hX f_MD_83 0 rfl rfl d_MD_lay_74 ?_
              refine g_sipush (pc := 77) hX 3000 d_MD_lay_77 (by decide) ?_
              refine g_icmp_ne (pc := 80) (tgt := 85) hX d_MD_lay_80 (by decide) (by omega) (by omega) (fun c_26 => ?_) (fun c_26 => ?_)
              · refine g_aload_n (pc := 85) hX 0 d_MD_lay_85 rfl rfl ?_
                refine g_get (pc := 86) hX f_MD_13 0 rfl rfl d_MD_lay_86 ?_
                refine g_aload_n (pc := 89) hX 0 d_MD_lay_89 rfl rfl ?_
                refine g_get (pc := 90) hX f_MD_83 0 rfl rfl d_MD_lay_90 ?_
                refine g_iload_n (pc := 93) hX 1 d_MD_lay_93 rfl rfl ?_
                refine g_iasN (pc := 94) hX 1 (k := ln) (x := k) rfl (by omega) d_MD_lay_94 ?_
                refine g_ws (mdO m A gn ln n kn sn dn mt mg ++ mI E A 1 (uZ LK ln k) ++ mL E A 2 LB) rfl ?_
                refine g_aload_n (pc := 95) hX 0 d_MD_lay_95 rfl rfl ?_
                refine g_get (pc := 96) hX f_MD_17 0 rfl rfl d_MD_lay_96 ?_
                refine g_aload_n (pc := 99) hX 0 d_MD_lay_99 rfl rfl ?_
                refine g_get (pc := 100) hX f_MD_83 0 rfl rfl d_MD_lay_100 ?_
                refine g_lload_n (pc := 103) hX 2 d_MD_lay_103 rfl rfl ?_
                refine g_lasN (pc := 104) hX 2 (k := ln) (x := z) rfl (by omega) d_MD_lay_104 ?_
                refine g_ws (mdO m A gn ln n kn sn dn mt mg ++ mI E A 1 (uZ LK ln k) ++ mL E A 2 (uZ LB ln z)) rfl ?_
                refine g_aload_n (pc := 105) hX 0 d_MD_lay_105 rfl rfl ?_
                refine g_dup (pc := 106) hX d_MD_lay_106 rfl ?_
                refine g_get (pc := 107) hX f_MD_83 0 rfl rfl d_MD_lay_107 ?_
                refine g_iconst (pc := 110) hX d_MD_lay_110 ?_
                refine g_iadd (pc := 111) hX d_MD_lay_111 ?_
                refine g_put (pc := 112) hX f_MD_83 gt_MD 0 rfl rfl rfl rfl (Nat.le_of_ble_eq_true rfl) d_MD_lay_112 ?_
                refine g_ws (mdO m A gn (ln + 1) n kn sn dn mt mg ++ mI E A 1 (uZ LK ln k) ++ mL E A 2 (uZ LB ln z)) rfl ?_
                refine g_aload_n (pc := 115) hX 0 d_MD_lay_115 rfl rfl ?_
                refine g_get (pc := 116) hX f_MD_83 0 rfl rfl d_MD_lay_116 ?_
                exact g_iret (pc := 119) hX hE d_MD_lay_119 (by decide) (by decide) (Or.inl ⟨hb, by omega, rfl, rfl, rfl, rfl⟩)
              · refine g_iconst (pc := 83) hX d_MD_lay_83 ?_
                exact g_iret (pc := 84) hX hE d_MD_lay_84 (by decide) (by decide) (Or.inr ⟨fun q => by have q2 := q.2; omega, rfl, rfl, rfl, rfl⟩)
        · refine g_iload_n (pc := 49) hX 1 d_MD_lay_49 rfl rfl ?_
          refine g_bipush (pc := 50) hX 6 d_MD_lay_50 (by decide) ?_
          refine g_icmp_ne (pc := 52) (tgt := 65) hX d_MD_lay_52 (by decide) (by omega) (by omega) (fun c_27 => ?_) (fun c_27 => ?_)
          · refine g_iconst (pc := 65) hX d_MD_lay_65 ?_
            have hb : ¬ okBes k z := by
              intro q
              rcases q with q | q | q
              · have := q.1; have := q.2.1; omega
              · omega
              · omega
            refine g_istore (pc := 66) hX d_MD_lay_66 (by decide) ?_
            refine g_iload (pc := 68) hX d_MD_lay_68 rfl ?_
            refine g_if_eq (pc := 70) (tgt := 83) hX d_MD_lay_70 (by decide) (by decide) (fun c_28 => ?_) (fun c_28 => ?_)
            · refine g_iconst (pc := 83) hX d_MD_lay_83 ?_
              exact g_iret (pc := 84) hX hE d_MD_lay_84 (by decide) (by decide) (Or.inr ⟨fun q => hb q.1, rfl, rfl, rfl, rfl⟩)
            · exact absurd (by decide) c_28
          · refine g_lload_n (pc := 55) hX 2 d_MD_lay_55 rfl rfl ?_
            refine g_lconst (pc := 56) hX 0 d_MD_lay_56 (by decide) ?_
            refine g_lcmp_ne (pc := 57) (tgt := 65) hX d_MD_lay_57 d_MD_lay_58 (by decide) (by omega) (by omega) (fun c_29 => ?_) (fun c_29 => ?_)
            · refine g_iconst (pc := 65) hX d_MD_lay_65 ?_
              have hb : ¬ okBes k z := by
                intro q
                rcases q with q | q | q
                · have := q.1; have := q.2.1; omega
                · omega
                · omega
              refine g_istore (pc := 66) hX d_MD_lay_66 (by decide) ?_
              refine g_iload (pc := 68) hX d_MD_lay_68 rfl ?_
              refine g_if_eq (pc := 70) (tgt := 83) hX d_MD_lay_70 (by decide) (by decide) (fun c_30 => ?_) (fun c_30 => ?_)
              · refine g_iconst (pc := 83) hX d_MD_lay_83 ?_
                exact g_iret (pc := 84) hX hE d_MD_lay_84 (by decide) (by decide) (Or.inr ⟨fun q => hb q.1, rfl, rfl, rfl, rfl⟩)
              · exact absurd (by decide) c_30
            · refine g_iconst (pc := 61) hX d_MD_lay_61 ?_
              refine g_goto (pc := 62) (tgt := 66) hX d_MD_lay_62 (by decide) ?_
              have hb : okBes k z := by first | (have e5 : k = 5 := (by omega); subst e5; exact okBes_5.mp (by omega)) | exact (okBes_46 (by omega)).mp (by omega)
              refine g_istore (pc := 66) hX d_MD_lay_66 (by decide) ?_
              refine g_iload (pc := 68) hX d_MD_lay_68 rfl ?_
              refine g_if_eq (pc := 70) (tgt := 83) hX d_MD_lay_70 (by decide) (by decide) (fun c_31 => ?_) (fun c_31 => ?_)
              · exact absurd c_31 (by decide)
              · refine g_aload_n (pc := 73) hX 0 d_MD_lay_73 rfl rfl ?_
                refine g_get (pc := 74) hX f_MD_83 0 rfl rfl d_MD_lay_74 ?_
                refine g_sipush (pc := 77) hX 3000 d_MD_lay_77 (by decide) ?_
                refine g_icmp_ne (pc := 80) (tgt := 85) hX d_MD_lay_80 (by decide) (by omega) (by omega) (fun c_32 => ?_) (fun c_32 => ?_)
                · refine g_aload_n (pc := 85) hX 0 d_MD_lay_85 rfl rfl ?_
                  refine g_get (pc := 86) hX f_MD_13 0 rfl rfl d_MD_lay_86 ?_
                  refine g_aload_n (pc := 89) hX 0 d_MD_lay_89 rfl rfl ?_
                  refine g_get (pc := 90) hX f_MD_83 0 rfl rfl d_MD_lay_90 ?_
                  refine g_iload_n (pc := 93) hX 1 d_MD_lay_93 rfl rfl ?_
                  refine g_iasN (pc := 94) hX 1 (k := ln) (x := k) rfl (by omega) d_MD_lay_94 ?_
                  refine g_ws (mdO m A gn ln n kn sn dn mt mg ++ mI E A 1 (uZ LK ln k) ++ mL E A 2 LB) rfl ?_
                  refine g_aload_n (pc := 95) hX 0 d_MD_lay_95 rfl rfl ?_
                  refine g_get (pc := 96) hX f_MD_17 0 rfl rfl d_MD_lay_96 ?_
                  refine g_aload_n (pc := 99) hX 0 d_MD_lay_99 rfl rfl ?_
                  refine g_get (pc := 100) hX f_MD_83 0 rfl rfl d_MD_lay_100 ?_
                  refine g_lload_n (pc := 103) hX 2 d_MD_lay_103 rfl rfl ?_
                  refine g_lasN (pc := 104) hX 2 (k := ln) (x := z) rfl (by omega) d_MD_lay_104 ?_
                  refine g_ws (mdO m A gn ln n kn sn dn mt mg ++ mI E A 1 (uZ LK ln k) ++ mL E A 2 (uZ LB ln z)) rfl ?_
                  refine g_aload_n (pc := 105) hX 0 d_MD_lay_105 rfl rfl ?_
                  refine g_dup (pc := 106) hX d_MD_lay_106 rfl ?_
                  refine g_get (pc := 107) hX f_MD_83 0 rfl rfl d_MD_lay_107 ?_
                  refine g_iconst (pc := 110) hX d_MD_lay_110 ?_
                  refine g_iadd (pc := 111) hX d_MD_lay_111 ?_
                  refine g_put (pc := 112) hX f_MD_83 gt_MD 0 rfl rfl rfl rfl (Nat.le_of_ble_eq_true rfl) d_MD_lay_112 ?_
                  refine g_ws (mdO m A gn (ln + 1) n kn sn dn mt mg ++ mI E A 1 (uZ LK ln k) ++ mL E A 2 (uZ LB ln z)) rfl ?_
                  refine g_aload_n (pc := 115) hX 0 d_MD_lay_115 rfl rfl ?_
                  refine g_get (pc := 116) hX f_MD_83 0 rfl rfl d_MD_lay_116 ?_
                  exact g_iret (pc := 119) hX hE d_MD_lay_119 (by decide) (by decide) (Or.inl ⟨hb, by omega, rfl, rfl, rfl, rfl⟩)
                · refine g_iconst (pc := 83) hX d_MD_lay_83 ?_
                  exact g_iret (pc := 84) hX hE d_MD_lay_84 (by decide) (by decide) (Or.inr ⟨fun q => by have q2 := q.2; omega, rfl, rfl, rfl, rfl⟩)
      · refine g_lload_n (pc := 22) hX 2 d_MD_lay_22 rfl rfl ?_
        refine g_lconst (pc := 23) hX 0 d_MD_lay_23 (by decide) ?_
        refine g_lcmp_lt (pc := 24) (tgt := 40) hX d_MD_lay_24 d_MD_lay_25 (by decide) (by omega) (by omega) (fun c_33 => ?_) (fun c_33 => ?_)
        · refine g_iconst (pc := 40) hX d_MD_lay_40 ?_
          refine g_goto (pc := 41) (tgt := 66) hX d_MD_lay_41 (by decide) ?_
          have hb : ¬ okBes k z := by
            intro q
            rcases q with q | q | q
            · have := q.1; have := q.2.1; omega
            · omega
            · omega
          refine g_istore (pc := 66) hX d_MD_lay_66 (by decide) ?_
          refine g_iload (pc := 68) hX d_MD_lay_68 rfl ?_
          refine g_if_eq (pc := 70) (tgt := 83) hX d_MD_lay_70 (by decide) (by decide) (fun c_34 => ?_) (fun c_34 => ?_)
          · refine g_iconst (pc := 83) hX d_MD_lay_83 ?_
            exact g_iret (pc := 84) hX hE d_MD_lay_84 (by decide) (by decide) (Or.inr ⟨fun q => hb q.1, rfl, rfl, rfl, rfl⟩)
          · exact absurd (by decide) c_34
        · refine g_lload_n (pc := 28) hX 2 d_MD_lay_28 rfl rfl ?_
          refine g_ldc2 (pc := 29) hX 100 w_549 (by decide) d_MD_lay_29 ?_
          refine g_lcmp_gt (pc := 32) (tgt := 40) hX d_MD_lay_32 d_MD_lay_33 (by decide) (by omega) (by omega) (fun c_35 => ?_) (fun c_35 => ?_)
          · refine g_iconst (pc := 40) hX d_MD_lay_40 ?_
            refine g_goto (pc := 41) (tgt := 66) hX d_MD_lay_41 (by decide) ?_
            have hb : ¬ okBes k z := by
              intro q
              rcases q with q | q | q
              · have := q.1; have := q.2.1; omega
              · omega
              · omega
            refine g_istore (pc := 66) hX d_MD_lay_66 (by decide) ?_
            refine g_iload (pc := 68) hX d_MD_lay_68 rfl ?_
            refine g_if_eq (pc := 70) (tgt := 83) hX d_MD_lay_70 (by decide) (by decide) (fun c_36 => ?_) (fun c_36 => ?_)
            · refine g_iconst (pc := 83) hX d_MD_lay_83 ?_
              exact g_iret (pc := 84) hX hE d_MD_lay_84 (by decide) (by decide) (Or.inr ⟨fun q => hb q.1, rfl, rfl, rfl, rfl⟩)
            · exact absurd (by decide) c_36
          · refine g_iconst (pc := 36) hX d_MD_lay_36 ?_
            refine g_goto (pc := 37) (tgt := 66) hX d_MD_lay_37 (by decide) ?_
            have hb : okBes k z := by first | (have e5 : k = 5 := (by omega); subst e5; exact okBes_5.mp (by omega)) | exact (okBes_46 (by omega)).mp (by omega)
            refine g_istore (pc := 66) hX d_MD_lay_66 (by decide) ?_
            refine g_iload (pc := 68) hX d_MD_lay_68 rfl ?_
            refine g_if_eq (pc := 70) (tgt := 83) hX d_MD_lay_70 (by decide) (by decide) (fun c_37 => ?_) (fun c_37 => ?_)
            · exact absurd c_37 (by decide)
            · refine g_aload_n (pc := 73) hX 0 d_MD_lay_73 rfl rfl ?_
              refine g_get (pc := 74) hX f_MD_83 0 rfl rfl d_MD_lay_74 ?_
              refine g_sipush (pc := 77) hX 3000 d_MD_lay_77 (by decide) ?_
              refine g_icmp_ne (pc := 80) (tgt := 85) hX d_MD_lay_80 (by decide) (by omega) (by omega) (fun c_38 => ?_) (fun c_38 => ?_)
              · refine g_aload_n (pc := 85) hX 0 d_MD_lay_85 rfl rfl ?_
                refine g_get (pc := 86) hX f_MD_13 0 rfl rfl d_MD_lay_86 ?_
                refine g_aload_n (pc := 89) hX 0 d_MD_lay_89 rfl rfl ?_
                refine g_get (pc := 90) hX f_MD_83 0 rfl rfl d_MD_lay_90 ?_
                refine g_iload_n (pc := 93) hX 1 d_MD_lay_93 rfl rfl ?_
                refine g_iasN (pc := 94) hX 1 (k := ln) (x := k) rfl (by omega) d_MD_lay_94 ?_
                refine g_ws (mdO m A gn ln n kn sn dn mt mg ++ mI E A 1 (uZ LK ln k) ++ mL E A 2 LB) rfl ?_
                refine g_aload_n (pc := 95) hX 0 d_MD_lay_95 rfl rfl ?_
                refine g_get (pc := 96) hX f_MD_17 0 rfl rfl d_MD_lay_96 ?_
                refine g_aload_n (pc := 99) hX 0 d_MD_lay_99 rfl rfl ?_
                refine g_get (pc := 100) hX f_MD_83 0 rfl rfl d_MD_lay_100 ?_
                refine g_lload_n (pc := 103) hX 2 d_MD_lay_103 rfl rfl ?_
                refine g_lasN (pc := 104) hX 2 (k := ln) (x := z) rfl (by omega) d_MD_lay_104 ?_
                refine g_ws (mdO m A gn ln n kn sn dn mt mg ++ mI E A 1 (uZ LK ln k) ++ mL E A 2 (uZ LB ln z)) rfl ?_
                refine g_aload_n (pc := 105) hX 0 d_MD_lay_105 rfl rfl ?_
                refine g_dup (pc := 106) hX d_MD_lay_106 rfl ?_
                refine g_get (pc := 107) hX f_MD_83 0 rfl rfl d_MD_lay_107 ?_
                refine g_iconst (pc := 110) hX d_MD_lay_110 ?_
                refine g_iadd (pc := 111) hX d_MD_lay_111 ?_
                refine g_put (pc := 112) hX f_MD_83 gt_MD 0 rfl rfl rfl rfl (Nat.le_of_ble_eq_true rfl) d_MD_lay_112 ?_
                refine g_ws (mdO m A gn (ln + 1) n kn sn dn mt mg ++ mI E A 1 (uZ LK ln k) ++ mL E A 2 (uZ LB ln z)) rfl ?_
                refine g_aload_n (pc := 115) hX 0 d_MD_lay_115 rfl rfl ?_
                refine g_get (pc := 116) hX f_MD_83 0 rfl rfl d_MD_lay_116 ?_
                exact g_iret (pc := 119) hX hE d_MD_lay_119 (by decide) (by decide) (Or.inl ⟨hb, by omega, rfl, rfl, rfl, rfl⟩)
              · refine g_iconst (pc := 83) hX d_MD_lay_83 ?_
                exact g_iret (pc := 84) hX hE d_MD_lay_84 (by decide) (by decide) (Or.inr ⟨fun q => by have q2 := q.2; omega, rfl, rfl, rfl, rfl⟩)
    · refine g_lload_n (pc := 9) hX 2 d_MD_lay_9 rfl rfl ?_
      refine g_iconst (pc := 10) hX d_MD_lay_10 ?_
      refine g_iS (pc := 11) hX (c_MD_isName l E _ (by omega) ()) gy_MD_isName w_531 w_530 rfl (by decide) (by decide) [] rfl (by decide +kernel) _ rfl (Nat.le_of_ble_eq_true rfl) d_MD_lay_11 (by decide) (by decide) ?_
      refine g_goto (pc := 14) (tgt := 66) hX d_MD_lay_14 (by decide) ?_
      have hb := okBes_n (k := k) (z := z) ⟨by omega, by omega⟩
      refine g_istore (pc := 66) hX d_MD_lay_66 (by decide) ?_
      refine g_iload (pc := 68) hX d_MD_lay_68 rfl ?_
      refine g_beq (pc := 70) (tgt := 83) hX d_MD_lay_70 (by decide) (fun c_39 => ?_) (fun c_39 => ?_)
      · refine g_iconst (pc := 83) hX d_MD_lay_83 ?_
        exact g_iret (pc := 84) hX hE d_MD_lay_84 (by decide) (by decide) (Or.inr ⟨fun q => by
        have q1 := hb.mpr q.1
        have q2 := q.2
        first | (exact absurd q1 (by assumption)) | omega, rfl, rfl, rfl, rfl⟩)
      · refine g_aload_n (pc := 73) hX 0 d_MD_lay_73 rfl rfl ?_
        refine g_get (pc := 74) hX f_MD_83 0 rfl rfl d_MD_lay_74 ?_
        refine g_sipush (pc := 77) hX 3000 d_MD_lay_77 (by decide) ?_
        refine g_icmp_ne (pc := 80) (tgt := 85) hX d_MD_lay_80 (by decide) (by omega) (by omega) (fun c_40 => ?_) (fun c_40 => ?_)
        · refine g_aload_n (pc := 85) hX 0 d_MD_lay_85 rfl rfl ?_
          refine g_get (pc := 86) hX f_MD_13 0 rfl rfl d_MD_lay_86 ?_
          refine g_aload_n (pc := 89) hX 0 d_MD_lay_89 rfl rfl ?_
          refine g_get (pc := 90) hX f_MD_83 0 rfl rfl d_MD_lay_90 ?_
          refine g_iload_n (pc := 93) hX 1 d_MD_lay_93 rfl rfl ?_
          refine g_iasN (pc := 94) hX 1 (k := ln) (x := k) rfl (by omega) d_MD_lay_94 ?_
          refine g_ws (mdO m A gn ln n kn sn dn mt mg ++ mI E A 1 (uZ LK ln k) ++ mL E A 2 LB) rfl ?_
          refine g_aload_n (pc := 95) hX 0 d_MD_lay_95 rfl rfl ?_
          refine g_get (pc := 96) hX f_MD_17 0 rfl rfl d_MD_lay_96 ?_
          refine g_aload_n (pc := 99) hX 0 d_MD_lay_99 rfl rfl ?_
          refine g_get (pc := 100) hX f_MD_83 0 rfl rfl d_MD_lay_100 ?_
          refine g_lload_n (pc := 103) hX 2 d_MD_lay_103 rfl rfl ?_
          refine g_lasN (pc := 104) hX 2 (k := ln) (x := z) rfl (by omega) d_MD_lay_104 ?_
          refine g_ws (mdO m A gn ln n kn sn dn mt mg ++ mI E A 1 (uZ LK ln k) ++ mL E A 2 (uZ LB ln z)) rfl ?_
          refine g_aload_n (pc := 105) hX 0 d_MD_lay_105 rfl rfl ?_
          refine g_dup (pc := 106) hX d_MD_lay_106 rfl ?_
          refine g_get (pc := 107) hX f_MD_83 0 rfl rfl d_MD_lay_107 ?_
          refine g_iconst (pc := 110) hX d_MD_lay_110 ?_
          refine g_iadd (pc := 111) hX d_MD_lay_111 ?_
          refine g_put (pc := 112) hX f_MD_83 gt_MD 0 rfl rfl rfl rfl (Nat.le_of_ble_eq_true rfl) d_MD_lay_112 ?_
          refine g_ws (mdO m A gn (ln + 1) n kn sn dn mt mg ++ mI E A 1 (uZ LK ln k) ++ mL E A 2 (uZ LB ln z)) rfl ?_
          refine g_aload_n (pc := 115) hX 0 d_MD_lay_115 rfl rfl ?_
          refine g_get (pc := 116) hX f_MD_83 0 rfl rfl d_MD_lay_116 ?_
          exact g_iret (pc := 119) hX hE d_MD_lay_119 (by decide) (by decide) (Or.inl ⟨hb.mp c_39, by omega, rfl, rfl, rfl, rfl⟩)
        · refine g_iconst (pc := 83) hX d_MD_lay_83 ?_
          exact g_iret (pc := 84) hX hE d_MD_lay_84 (by decide) (by decide) (Or.inr ⟨fun q => by
        have q1 := hb.mpr q.1
        have q2 := q.2
        first | (exact absurd q1 (by assumption)) | omega, rfl, rfl, rfl, rfl⟩)

abbrev rm_MD_drop : Room := { frames := 0, cells := 0, slots := 0, locals := 0 }
set_option maxHeartbeats 4000000 in
set_option maxRecDepth 100000 in
theorem c_MD_drop (l : Launch) (E : gE) (m : Nat) (A : Nat → Nat) (gn ln n kn sn dn : Nat) (mt mg : Int) : Ct l E y_MD_drop b_MD_drop 2 (some .int) rm_MD_drop [.ref m] (mdO m A gn ln n kn sn dn mt mg) (fun vv ww dc ds => vv = some (.int (iI (ln : Int))) ∧ ww = mdO m A gn 0 n kn sn dn mt mg ∧ dc = 0 ∧ ds = 0) := by
  refine g_start (by decide) (Nat.le_of_ble_eq_true rfl) (fun X hX hE hin => ?_)
  refine g_aload_n (pc := 0) hX 0 d_MD_drop_0 rfl rfl ?_
  refine g_get (pc := 1) hX f_MD_83 0 rfl rfl d_MD_drop_1 ?_
  refine g_istore_n (pc := 4) hX 1 d_MD_drop_4 rfl (by decide) ?_
  refine g_aload_n (pc := 5) hX 0 d_MD_drop_5 rfl rfl ?_
  refine g_iconst (pc := 6) hX d_MD_drop_6 ?_
  refine g_put (pc := 7) hX f_MD_83 gt_MD 0 rfl rfl rfl rfl (Nat.le_of_ble_eq_true rfl) d_MD_drop_7 ?_
  refine g_ws (mdO m A gn 0 n kn sn dn mt mg) rfl ?_
  refine g_iload_n (pc := 10) hX 1 d_MD_drop_10 rfl rfl ?_
  exact g_iret (pc := 11) hX hE d_MD_drop_11 (by decide) (by decide) ⟨rfl, rfl, rfl, rfl⟩

abbrev rm_MD_nodes : Room := { frames := 0, cells := 0, slots := 0, locals := 0 }
set_option maxHeartbeats 4000000 in
set_option maxRecDepth 100000 in
theorem c_MD_nodes (l : Launch) (E : gE) (m : Nat) (A : Nat → Nat) (gn ln n kn sn dn : Nat) (mt mg : Int) : CtI l E y_MD_nodes b_MD_nodes 1 (some .int) rm_MD_nodes [.ref m] (mdO m A gn ln n kn sn dn mt mg) ((n : Int)) := by
  refine g_start (by decide) (Nat.le_of_ble_eq_true rfl) (fun X hX hE hin => ?_)
  refine g_aload_n (pc := 0) hX 0 d_MD_nodes_0 rfl rfl ?_
  refine g_get (pc := 1) hX f_MD_53 0 rfl rfl d_MD_nodes_1 ?_
  exact g_iret (pc := 4) hX hE d_MD_nodes_4 (by decide) (by decide) ⟨rfl, rfl, rfl, rfl⟩

abbrev rm_MD_isOneTerm : Room := { frames := 1, cells := 0, slots := 0, locals := 20 }
set_option maxHeartbeats 4000000 in
set_option maxRecDepth 100000 in
theorem c_MD_isOneTerm (l : Launch) (E : gE) (m : Nat) (A : Nat → Nat) (gn ln n kn sn dn : Nat) (mt mg : Int) (LK : Nat → Int) (hln : ln ≤ 3000) (hK : ∀ j, j < ln → 0 ≤ LK j ∧ LK j ≤ 6) : CtI l E y_MD_isOneTerm b_MD_isOneTerm 3 (some .boolean) rm_MD_isOneTerm [.ref m] (mdO m A gn ln n kn sn dn mt mg ++ mI E A 1 LK) (bZ (OneT ln LK)) := by
  refine g_start (by decide) (Nat.le_of_ble_eq_true rfl) (fun X hX hE hin => ?_)
  refine g_iconst (pc := 0) hX d_MD_isOneTerm_0 ?_
  refine g_istore_n (pc := 1) hX 1 d_MD_isOneTerm_1 rfl (by decide) ?_
  refine g_iconst (pc := 2) hX d_MD_isOneTerm_2 ?_
  refine g_istore_n (pc := 3) hX 2 d_MD_isOneTerm_3 rfl (by decide) ?_
  have loop : ∀ (d k : Nat), ln < k + d → k ≤ ln → (∀ j, j < k → stk LK j ≠ []) → gW X (mdO m A gn ln n kn sn dn mt mg ++ mI E A 1 LK) 0 0 4 [(0, .ref m), (1, .int (iI (((stk LK k).length : Nat) : Int))), (2, .int (iI (k : Int)))] [] := by
    intro d
    induction d with
    | zero => intro k hfu hk; omega
    | succ d ih =>
      intro k hfu hk hne
      have hsl := stk_le LK k
      refine g_iload_n (pc := 4) hX 2 d_MD_isOneTerm_4 rfl rfl ?_
      refine g_aload_n (pc := 5) hX 0 d_MD_isOneTerm_5 rfl rfl ?_
      refine g_get (pc := 6) hX f_MD_83 0 rfl rfl d_MD_isOneTerm_6 ?_
      refine g_icmp_ge (pc := 9) (tgt := 44) hX d_MD_isOneTerm_9 (by decide) (by omega) (by omega) (fun c_1 => ?_) (fun c_1 => ?_)
      · refine g_iload_n (pc := 44) hX 1 d_MD_isOneTerm_44 rfl rfl ?_
        refine g_if_ne (pc := 45) (tgt := 52) hX d_MD_isOneTerm_45 (by decide) (by omega) (fun c_2 => ?_) (fun c_2 => ?_)
        · refine g_iconst (pc := 52) hX d_MD_isOneTerm_52 ?_
          exact g_zret (pc := 53) hX hE (by first | exact Or.inl rfl | exact Or.inr rfl | exact bZ_01 _) d_MD_isOneTerm_53 (by decide) (by decide) ⟨by rw [bZ_f (fun q => by have e2 : (stk LK ln).length = 0 := congrArg List.length (OneT_stk.mp q).2; rw [show ln = k by omega] at e2; omega)], rfl, rfl, rfl⟩
        · refine g_iconst (pc := 48) hX d_MD_isOneTerm_48 ?_
          refine g_goto (pc := 49) (tgt := 53) hX d_MD_isOneTerm_49 (by decide) ?_
          exact g_zret (pc := 53) hX hE (by first | exact Or.inl rfl | exact Or.inr rfl | exact bZ_01 _) d_MD_isOneTerm_53 (by decide) (by decide) ⟨by rw [bZ_t (OneT_stk.mpr ⟨fun j hj => hne j (by omega), List.length_eq_zero_iff.mp (by rw [show ln = k by omega]; omega)⟩)], rfl, rfl, rfl⟩
      · refine g_iload_n (pc := 12) hX 1 d_MD_isOneTerm_12 rfl rfl ?_
        refine g_if_ne (pc := 13) (tgt := 18) hX d_MD_isOneTerm_13 (by decide) (by omega) (fun c_3 => ?_) (fun c_3 => ?_)
        · have hne1 : stk LK k ≠ [] := fun e => by
            have e2 : (stk LK k).length = 0 := congrArg List.length e
            omega
          have hKk := hK k (by omega)
          refine g_iload_n (pc := 18) hX 1 d_MD_isOneTerm_18 rfl rfl ?_
          refine g_aload_n (pc := 19) hX 0 d_MD_isOneTerm_19 rfl rfl ?_
          refine g_get (pc := 20) hX f_MD_13 0 rfl rfl d_MD_isOneTerm_20 ?_
          refine g_iload_n (pc := 23) hX 2 d_MD_isOneTerm_23 rfl rfl ?_
          refine g_iadN (pc := 24) hX 1 (k := k) rfl (by omega) d_MD_isOneTerm_24 ?_
          refine g_iS (pc := 25) hX (c_MD_hasParts l E _ (by omega)) gy_MD_hasParts w_563 w_562 rfl (by decide) (by decide) [] rfl (by decide +kernel) _ rfl (Nat.le_of_ble_eq_true rfl) d_MD_isOneTerm_25 (by decide) (by decide) ?_
          refine g_beq (pc := 28) (tgt := 35) hX d_MD_isOneTerm_28 (by decide) (fun c_4 => ?_) (fun c_4 => ?_)
          · refine g_iconst (pc := 35) hX d_MD_isOneTerm_35 ?_
            refine g_iadd (pc := 36) hX d_MD_isOneTerm_36 ?_
            refine g_istore_n (pc := 37) hX 1 d_MD_isOneTerm_37 rfl (by decide) ?_
            refine g_iinc (pc := 38) hX d_MD_isOneTerm_38 (by decide) rfl ?_
            refine g_goto (pc := 41) (tgt := 4) hX d_MD_isOneTerm_41 (by decide) ?_
            have hs2 : (((stk LK k).length : Nat) : Int) + -1 = (((stk LK (k + 1)).length : Nat) : Int) := by
              have := stk_dn hne1 (show ¬ pP (LK k) by omega)
              omega
            rw [hs2]
            refine g_lv [(0, .ref m), (1, .int (iI (((stk LK (k + 1)).length : Nat) : Int))), (2, .int (iI ((k + 1 : Nat) : Int)))] ⟨rfl, rfl, rfl, trivial⟩ ?_
            exact ih (k + 1) (by omega) (by omega) (fun j hj => by
              by_cases e : j = k
              · subst e; exact hne1
              · exact hne j (by omega))
          · refine g_iconst (pc := 31) hX d_MD_isOneTerm_31 ?_
            refine g_goto (pc := 32) (tgt := 36) hX d_MD_isOneTerm_32 (by decide) ?_
            refine g_iadd (pc := 36) hX d_MD_isOneTerm_36 ?_
            refine g_istore_n (pc := 37) hX 1 d_MD_isOneTerm_37 rfl (by decide) ?_
            refine g_iinc (pc := 38) hX d_MD_isOneTerm_38 (by decide) rfl ?_
            refine g_goto (pc := 41) (tgt := 4) hX d_MD_isOneTerm_41 (by decide) ?_
            have hs2 : (((stk LK k).length : Nat) : Int) + 1 = (((stk LK (k + 1)).length : Nat) : Int) := by
              have := stk_up hne1 (show pP (LK k) by omega)
              omega
            rw [hs2]
            refine g_lv [(0, .ref m), (1, .int (iI (((stk LK (k + 1)).length : Nat) : Int))), (2, .int (iI ((k + 1 : Nat) : Int)))] ⟨rfl, rfl, rfl, trivial⟩ ?_
            exact ih (k + 1) (by omega) (by omega) (fun j hj => by
              by_cases e : j = k
              · subst e; exact hne1
              · exact hne j (by omega))
        · refine g_iconst (pc := 16) hX d_MD_isOneTerm_16 ?_
          exact g_zret (pc := 17) hX hE (by first | exact Or.inl rfl | exact Or.inr rfl | exact bZ_01 _) d_MD_isOneTerm_17 (by decide) (by decide) ⟨by rw [bZ_f (fun q => (OneT_stk.mp q).1 k (by omega) (List.length_eq_zero_iff.mp (by omega)))], rfl, rfl, rfl⟩
  refine g_lv [(0, .ref m), (1, .int (iI (((stk LK 0).length : Nat) : Int))), (2, .int (iI ((0 : Nat) : Int)))] ⟨rfl, rfl, rfl, trivial⟩ ?_
  exact loop (ln + 1) 0 (by omega) (by omega) (fun j hj => by omega)
  

abbrev rm_MD_kindOf : Room := { frames := 0, cells := 0, slots := 0, locals := 0 }
set_option maxHeartbeats 4000000 in
set_option maxRecDepth 100000 in
theorem c_MD_kindOf (l : Launch) (E : gE) (m : Nat) (A : Nat → Nat) (gn ln n kn sn dn : Nat) (mt mg : Int) (LK K : Nat → Int) (fl : Int) (k : Nat) (F : Nat → Int) (hF : (fl = 1 ∧ F = LK) ∨ (fl = 0 ∧ F = K)) (hk : k < 3000) : CtI l E y_MD_kindOf b_MD_kindOf 3 (some .int) rm_MD_kindOf [.ref m, .int (iI fl), .int (iI (k : Int))] (mdO m A gn ln n kn sn dn mt mg ++ mI E A 1 LK ++ mI E A 3 K) (F k) := by
  have hfl : fl = 0 ∨ fl = 1 := by
    rcases hF with h | h
    · exact Or.inr h.1
    · exact Or.inl h.1
  refine g_start (by decide) (Nat.le_of_ble_eq_true rfl) (fun X hX hE hin => ?_)
  refine g_iload_n (pc := 0) hX 1 d_MD_kindOf_0 rfl rfl ?_
  refine g_if_eq (pc := 1) (tgt := 13) hX d_MD_kindOf_1 (by decide) (by omega) (fun c_1 => ?_) (fun c_1 => ?_)
  · have eF : F = K := by
      rcases hF with h | h
      · exact absurd h.1 (by omega)
      · exact h.2
    refine g_aload_n (pc := 13) hX 0 d_MD_kindOf_13 rfl rfl ?_
    refine g_get (pc := 14) hX f_MD_20 0 rfl rfl d_MD_kindOf_14 ?_
    refine g_iload_n (pc := 17) hX 2 d_MD_kindOf_17 rfl rfl ?_
    refine g_iadN (pc := 18) hX 2 (k := k) rfl (by omega) d_MD_kindOf_18 ?_
    exact g_iret (pc := 19) hX hE d_MD_kindOf_19 (by decide) (by decide) ⟨by rw [eF], rfl, rfl, rfl⟩
  · have eF : F = LK := by
      rcases hF with h | h
      · exact h.2
      · exact absurd h.1 (by omega)
    refine g_aload_n (pc := 4) hX 0 d_MD_kindOf_4 rfl rfl ?_
    refine g_get (pc := 5) hX f_MD_13 0 rfl rfl d_MD_kindOf_5 ?_
    refine g_iload_n (pc := 8) hX 2 d_MD_kindOf_8 rfl rfl ?_
    refine g_iadN (pc := 9) hX 1 (k := k) rfl (by omega) d_MD_kindOf_9 ?_
    refine g_goto (pc := 10) (tgt := 19) hX d_MD_kindOf_10 (by decide) ?_
    exact g_iret (pc := 19) hX hE d_MD_kindOf_19 (by decide) (by decide) ⟨by rw [eF], rfl, rfl, rfl⟩

abbrev rm_MD_lastOf : Room := { frames := 0, cells := 0, slots := 0, locals := 0 }
set_option maxHeartbeats 4000000 in
set_option maxRecDepth 100000 in
theorem c_MD_lastOf (l : Launch) (E : gE) (m : Nat) (A : Nat → Nat) (gn ln n kn sn dn : Nat) (mt mg : Int) (SZ : Nat → Int) (k : Nat) (z : Nat) (hz : SZ (k + 1) = (z : Int)) (hk : k + 1 < 3000 ∧ z ≤ 3000) : CtI l E y_MD_lastOf b_MD_lastOf 2 (some .int) rm_MD_lastOf [.ref m, .int (iI (k : Int))] (mdO m A gn ln n kn sn dn mt mg ++ mI E A 11 SZ) (((k + 1 + z : Nat) : Int)) := by
  refine g_start (by decide) (Nat.le_of_ble_eq_true rfl) (fun X hX hE hin => ?_)
  refine g_iload_n (pc := 0) hX 1 d_MD_lastOf_0 rfl rfl ?_
  refine g_iconst (pc := 1) hX d_MD_lastOf_1 ?_
  refine g_iadd (pc := 2) hX d_MD_lastOf_2 ?_
  refine g_aload_n (pc := 3) hX 0 d_MD_lastOf_3 rfl rfl ?_
  refine g_get (pc := 4) hX f_MD_44 0 rfl rfl d_MD_lastOf_4 ?_
  refine g_iload_n (pc := 7) hX 1 d_MD_lastOf_7 rfl rfl ?_
  refine g_iconst (pc := 8) hX d_MD_lastOf_8 ?_
  refine g_iadd (pc := 9) hX d_MD_lastOf_9 ?_
  refine g_iadN (pc := 10) hX 1 (k := (k + 1)) rfl (by omega) d_MD_lastOf_10 ?_
  rw [hz]
  refine g_iadd (pc := 11) hX d_MD_lastOf_11 ?_
  exact g_iret (pc := 12) hX hE d_MD_lastOf_12 (by decide) (by decide) ⟨rfl, rfl, rfl, rfl⟩

abbrev rm_MD_draft : Room := { frames := 0, cells := 0, slots := 0, locals := 0 }
set_option maxHeartbeats 4000000 in
set_option maxRecDepth 100000 in
theorem c_MD_draft (l : Launch) (E : gE) (m : Nat) (A : Nat → Nat) (gn ln n kn sn dn : Nat) (mt mg : Int) (DK DB : Nat → Int) (a : Int) (ha : gin a) (b : Int) (hb : gil b) (hd : dn < 3000) : Ct l E y_MD_draft b_MD_draft 4 none rm_MD_draft [.ref m, .int (iI a), .long (lI b)] (mdO m A gn ln n kn sn dn mt mg ++ mI E A 9 DK ++ mL E A 10 DB) (fun vv ww dc ds => vv = none ∧ ww = mdO m A gn ln n kn sn (dn + 1) mt mg ++ mI E A 9 (uZ DK dn a) ++ mL E A 10 (uZ DB dn b) ∧ dc = 0 ∧ ds = 0) := by
  refine g_start (by decide) (Nat.le_of_ble_eq_true rfl) (fun X hX hE hin => ?_)
  refine g_aload_n (pc := 0) hX 0 d_MD_draft_0 rfl rfl ?_
  refine g_get (pc := 1) hX f_MD_38 0 rfl rfl d_MD_draft_1 ?_
  refine g_aload_n (pc := 4) hX 0 d_MD_draft_4 rfl rfl ?_
  refine g_get (pc := 5) hX f_MD_124 0 rfl rfl d_MD_draft_5 ?_
  refine g_iload_n (pc := 8) hX 1 d_MD_draft_8 rfl rfl ?_
  refine g_iasN (pc := 9) hX 1 (k := dn) (x := a) rfl (by omega) d_MD_draft_9 ?_
  refine g_ws (mdO m A gn ln n kn sn dn mt mg ++ mI E A 9 (uZ DK dn a) ++ mL E A 10 DB) rfl ?_
  refine g_aload_n (pc := 10) hX 0 d_MD_draft_10 rfl rfl ?_
  refine g_get (pc := 11) hX f_MD_41 0 rfl rfl d_MD_draft_11 ?_
  refine g_aload_n (pc := 14) hX 0 d_MD_draft_14 rfl rfl ?_
  refine g_get (pc := 15) hX f_MD_124 0 rfl rfl d_MD_draft_15 ?_
  refine g_lload_n (pc := 18) hX 2 d_MD_draft_18 rfl rfl ?_
  refine g_lasN (pc := 19) hX 2 (k := dn) (x := b) rfl (by omega) d_MD_draft_19 ?_
  refine g_ws (mdO m A gn ln n kn sn dn mt mg ++ mI E A 9 (uZ DK dn a) ++ mL E A 10 (uZ DB dn b)) rfl ?_
  refine g_aload_n (pc := 20) hX 0 d_MD_draft_20 rfl rfl ?_
  refine g_dup (pc := 21) hX d_MD_draft_21 rfl ?_
  refine g_get (pc := 22) hX f_MD_124 0 rfl rfl d_MD_draft_22 ?_
  refine g_iconst (pc := 25) hX d_MD_draft_25 ?_
  refine g_iadd (pc := 26) hX d_MD_draft_26 ?_
  refine g_put (pc := 27) hX f_MD_124 gt_MD 0 rfl rfl rfl rfl (Nat.le_of_ble_eq_true rfl) d_MD_draft_27 ?_
  refine g_ws (mdO m A gn ln n kn sn (dn + 1) mt mg ++ mI E A 9 (uZ DK dn a) ++ mL E A 10 (uZ DB dn b)) rfl ?_
  exact g_vret (pc := 30) hX hE d_MD_draft_30 (by decide) (by decide) ⟨rfl, rfl, rfl, rfl⟩
