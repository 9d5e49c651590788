abbrev rm_MD_meaningOf : Room := { frames := 1, cells := 0, slots := 0, locals := 23 }
set_option maxHeartbeats 4000000 in
set_option maxRecDepth 100000 in
theorem c_MD_meaningOf (l : Launch) (E : gE) (m : Nat) (A : Nat → Nat) (gn ln n kn sn dn : Nat) (mt mg : Int) (G LK LB SZ WH : Nat → Int) (k : Nat) (σ : Nat → Nat) (hO : oneS ln LK σ) (hm : meaM ln LK σ SZ WH) (hk : k < ln ∧ LK k = 0) (hLB : ∀ j, j < ln → 0 ≤ LB j ∧ LB j < 9223372036854775808) (h6 : ∀ j, j < ln → LK j = 6 → LB j = 0) (hk0 : LB k ≠ 0) (hgn : gn ≤ 200) (hG : ∀ j, j < gn → gil (G j)) : Ct l E y_MD_meaningOf b_MD_meaningOf 5 (some .int) rm_MD_meaningOf [.ref m, .int (iI (k : Int))] (mdO m A gn ln n kn sn dn mt mg ++ mG E A G ++ mI E A 1 LK ++ mL E A 2 LB ++ mI E A 11 SZ ++ mI E A 12 WH) (fun vv ww dc ds => ∃ mt2 mg2 r : Int, vv = some (.int (iI r)) ∧ ww = mdO m A gn ln n kn sn dn mt2 mg2 ++ mG E A G ++ mI E A 1 LK ++ mL E A 2 LB ++ mI E A 11 SZ ++ mI E A 12 WH ∧ ((r = 0 ∨ r = 7) ∧ ((mt2 = 1 ∧ bN LK LB gn G k = some (r, mg2)) ∨ (mt2 = 0 ∧ bN LK LB gn G k = none))) ∧ dc = 0 ∧ ds = 0) := by
  obtain ⟨hz, h0, hN, hN2, hkd⟩ := id hO
  have hek := env_le hz h0 hk.1
  have hBk := hLB k hk.1
  have hfi := fnd_in gn G (LB k)
  have hgw : ∀ p, p < ln → -1 ≤ WH p ∧ WH p < 3000 := fun p hp => by
    rcases Nat.eq_zero_or_pos p with e | e
    · rw [e, hm.2.1]; omega
    · obtain ⟨q, w1, w2, -⟩ := par_at hz h0 hm.2 e hp
      rw [w1]; omega
  refine g_start (by decide) (Nat.le_of_ble_eq_true rfl) (fun X hX hE hin => ?_)
  refine g_iconst (pc := 0) hX d_MD_meaningOf_0 ?_
  refine g_istore_n (pc := 1) hX 2 d_MD_meaningOf_1 rfl (by decide) ?_
  refine g_iload_n (pc := 2) hX 1 d_MD_meaningOf_2 rfl rfl ?_
  refine g_istore_n (pc := 3) hX 3 d_MD_meaningOf_3 rfl (by decide) ?_
  refine g_aload_n (pc := 4) hX 0 d_MD_meaningOf_4 rfl rfl ?_
  refine g_iconst (pc := 5) hX d_MD_meaningOf_5 ?_
  refine g_put (pc := 6) hX f_MD_94 gt_MD 0 rfl rfl rfl rfl (Nat.le_of_ble_eq_true rfl) d_MD_meaningOf_6 ?_
  refine g_ws (mdO m A gn ln n kn sn dn 1 mg ++ mG E A G ++ mI E A 1 LK ++ mL E A 2 LB ++ mI E A 11 SZ ++ mI E A 12 WH) rfl ?_
  refine g_aload_n (pc := 9) hX 0 d_MD_meaningOf_9 rfl rfl ?_
  refine g_get (pc := 10) hX f_MD_47 0 rfl rfl d_MD_meaningOf_10 ?_
  refine g_iload_n (pc := 13) hX 1 d_MD_meaningOf_13 rfl rfl ?_
  refine g_iadN (pc := 14) hX 5 (k := k) rfl (by omega) d_MD_meaningOf_14 ?_
  refine g_istore (pc := 15) hX d_MD_meaningOf_15 (by decide) ?_
  have loop : ∀ (d : Nat) (pre : List Nat) (p : Nat), p < d → p < ln → env LK k = pre ++ env LK p → (∀ y ∈ pre, LB y ≠ LB k) → gW X (mdO m A gn ln n kn sn dn 1 mg ++ mG E A G ++ mI E A 1 LK ++ mL E A 2 LB ++ mI E A 11 SZ ++ mI E A 12 WH) 0 0 17 [(0, .ref m), (1, .int (iI (k : Int))), (2, .int (iI ((pre).length : Int))), (3, .int (iI (p : Int))), (4, .int (iI (WH p)))] [] := by
    intro d
    induction d with
    | zero => intro pre p hfu hp hpre hne; omega
    | succ d ih =>
      intro pre p hfu hp hpre hne
      have hgp := hgw p hp
      have hpl : pre.length ≤ k := by
        have := congrArg List.length hpre
        rw [List.length_append] at this
        omega
      refine g_iload (pc := 17) hX d_MD_meaningOf_17 rfl ?_
      refine g_iconst (pc := 19) hX d_MD_meaningOf_19 ?_
      refine g_icmp_eq (pc := 20) (tgt := 101) hX d_MD_meaningOf_20 (by decide) (by omega) (by omega) (fun c_1 => ?_) (fun c_1 => ?_)
      · have hen : ∀ y ∈ env LK k, LB y ≠ LB k := by
          have e9 : p = 0 := by
            rcases Nat.eq_zero_or_pos p with e | e
            · exact e
            · obtain ⟨q, w1, w2, -⟩ := par_at hz h0 hm.2 e hp
              exfalso; omega
          rw [hpre, e9]; intro y hy
          exact hne y (by simpa [env, stk] using hy)
        have hbi := bIdx_no hen
        refine g_aload_n (pc := 101) hX 0 d_MD_meaningOf_101 rfl rfl ?_
        refine g_aload_n (pc := 102) hX 0 d_MD_meaningOf_102 rfl rfl ?_
        refine g_get (pc := 103) hX f_MD_17 0 rfl rfl d_MD_meaningOf_103 ?_
        refine g_iload_n (pc := 106) hX 1 d_MD_meaningOf_106 rfl rfl ?_
        refine g_ladN (pc := 107) hX 3 (k := k) rfl (by omega) d_MD_meaningOf_107 ?_
        refine g_iV (pc := 108) hX (c_MD_globalOf l E m A gn ln n kn sn dn 1 mg G _ (by omega) (by omega) hG) gy_MD_globalOf gv_MD_globalOf w_541 rfl (by decide) (by decide) [0, 1] rfl (by decide +kernel) rfl rfl rfl _ rfl (Nat.le_of_ble_eq_true rfl) d_MD_meaningOf_108 (by decide) (by decide) ?_
        refine g_istore (pc := 111) hX d_MD_meaningOf_111 (by decide) ?_
        refine g_aload_n (pc := 113) hX 0 d_MD_meaningOf_113 rfl rfl ?_
        refine g_iload (pc := 114) hX d_MD_meaningOf_114 rfl ?_
        refine g_iconst (pc := 116) hX d_MD_meaningOf_116 ?_
        refine g_icmp_eq (pc := 117) (tgt := 124) hX d_MD_meaningOf_117 (by decide) (by omega) (by omega) (fun c_2 => ?_) (fun c_2 => ?_)
        · refine g_iconst (pc := 124) hX d_MD_meaningOf_124 ?_
          refine g_put (pc := 125) hX f_MD_94 gt_MD 0 rfl rfl rfl rfl (Nat.le_of_ble_eq_true rfl) d_MD_meaningOf_125 ?_
          refine g_ws (mdO m A gn ln n kn sn dn 0 mg ++ mG E A G ++ mI E A 1 LK ++ mL E A 2 LB ++ mI E A 11 SZ ++ mI E A 12 WH) rfl ?_
          refine g_aload_n (pc := 128) hX 0 d_MD_meaningOf_128 rfl rfl ?_
          refine g_iload (pc := 129) hX d_MD_meaningOf_129 rfl ?_
          refine g_i2l (pc := 131) hX d_MD_meaningOf_131 (by omega) ?_
          refine g_put (pc := 132) hX f_MD_105 gt_MD 0 rfl rfl rfl rfl (Nat.le_of_ble_eq_true rfl) d_MD_meaningOf_132 ?_
          refine g_ws (mdO m A gn ln n kn sn dn 0 (fnd gn G (LB k)) ++ mG E A G ++ mI E A 1 LK ++ mL E A 2 LB ++ mI E A 11 SZ ++ mI E A 12 WH) rfl ?_
          refine g_bipush (pc := 135) hX 7 d_MD_meaningOf_135 (by decide) ?_
          exact g_iret (pc := 137) hX hE d_MD_meaningOf_137 (by decide) (by decide) ⟨0, fnd gn G (LB k), 7, rfl, rfl, ⟨Or.inr rfl, Or.inr ⟨rfl, bN_0n hk.2 hbi (by omega)⟩⟩, rfl, rfl⟩
        · refine g_iconst (pc := 120) hX d_MD_meaningOf_120 ?_
          refine g_goto (pc := 121) (tgt := 125) hX d_MD_meaningOf_121 (by decide) ?_
          refine g_put (pc := 125) hX f_MD_94 gt_MD 0 rfl rfl rfl rfl (Nat.le_of_ble_eq_true rfl) d_MD_meaningOf_125 ?_
          refine g_ws (mdO m A gn ln n kn sn dn 1 mg ++ mG E A G ++ mI E A 1 LK ++ mL E A 2 LB ++ mI E A 11 SZ ++ mI E A 12 WH) rfl ?_
          refine g_aload_n (pc := 128) hX 0 d_MD_meaningOf_128 rfl rfl ?_
          refine g_iload (pc := 129) hX d_MD_meaningOf_129 rfl ?_
          refine g_i2l (pc := 131) hX d_MD_meaningOf_131 (by omega) ?_
          refine g_put (pc := 132) hX f_MD_105 gt_MD 0 rfl rfl rfl rfl (Nat.le_of_ble_eq_true rfl) d_MD_meaningOf_132 ?_
          refine g_ws (mdO m A gn ln n kn sn dn 1 (fnd gn G (LB k)) ++ mG E A G ++ mI E A 1 LK ++ mL E A 2 LB ++ mI E A 11 SZ ++ mI E A 12 WH) rfl ?_
          refine g_bipush (pc := 135) hX 7 d_MD_meaningOf_135 (by decide) ?_
          exact g_iret (pc := 137) hX hE d_MD_meaningOf_137 (by decide) (by decide) ⟨1, fnd gn G (LB k), 7, rfl, rfl, ⟨Or.inr rfl, Or.inl ⟨rfl, bN_0g hk.2 hbi (by omega)⟩⟩, rfl, rfl⟩
      · have hp0 : 0 < p := by
          rcases Nat.eq_zero_or_pos p with e | e
          · exfalso; apply c_1; rw [e]; exact hm.2.1
          · exact e
        obtain ⟨q, w1, w2, w3, w4, w5, w6⟩ := par_at hz h0 hm.2 hp0 hp
        have hkq := hkd q (by omega)
        have hsq := hm.1 (q + 1) w4
        obtain ⟨x1, x2⟩ := hO.en w4
        obtain ⟨hb1, hb2⟩ := hLB q (by omega)
        rw [w1]
        refine g_aload_n (pc := 23) hX 0 d_MD_meaningOf_23 rfl rfl ?_
        refine g_get (pc := 24) hX f_MD_13 0 rfl rfl d_MD_meaningOf_24 ?_
        refine g_iload (pc := 27) hX d_MD_meaningOf_27 rfl ?_
        refine g_iadN (pc := 29) hX 2 (k := q) rfl (by omega) d_MD_meaningOf_29 ?_
        refine g_iS (pc := 30) hX (c_MD_binds l E _ (by omega)) gy_MD_binds w_581 w_580 rfl (by decide) (by decide) [] rfl (by decide +kernel) _ rfl (Nat.le_of_ble_eq_true rfl) d_MD_meaningOf_30 (by decide) (by decide) ?_
        refine g_beq (pc := 33) (tgt := 86) hX d_MD_meaningOf_33 (by decide) (fun c_3 => ?_) (fun c_3 => ?_)
        · refine g_iload (pc := 86) hX d_MD_meaningOf_86 rfl ?_
          refine g_istore_n (pc := 88) hX 3 d_MD_meaningOf_88 rfl (by decide) ?_
          refine g_aload_n (pc := 89) hX 0 d_MD_meaningOf_89 rfl rfl ?_
          refine g_get (pc := 90) hX f_MD_47 0 rfl rfl d_MD_meaningOf_90 ?_
          refine g_iload (pc := 93) hX d_MD_meaningOf_93 rfl ?_
          refine g_iadN (pc := 95) hX 5 (k := q) rfl (by omega) d_MD_meaningOf_95 ?_
          refine g_istore (pc := 96) hX d_MD_meaningOf_96 (by decide) ?_
          refine g_goto (pc := 98) (tgt := 17) hX d_MD_meaningOf_98 (by decide) ?_
          refine g_lv [(0, .ref m), (1, .int (iI (k : Int))), (2, .int (iI ((pre).length : Int))), (3, .int (iI (q : Int))), (4, .int (iI (WH q)))] ⟨rfl, rfl, rfl, rfl, rfl, trivial⟩ ?_
          exact ih pre q  (by omega) (by omega) (by
            have e7 : env LK p = env LK q := by
              rcases w6 with h | h
              · exact h.2.2
              · rw [h.2]; unfold lastE; rw [if_neg c_3]
            rw [hpre, e7]) hne
        · refine g_iload_n (pc := 36) hX 3 d_MD_meaningOf_36 rfl rfl ?_
          refine g_aload_n (pc := 37) hX 0 d_MD_meaningOf_37 rfl rfl ?_
          refine g_iload (pc := 38) hX d_MD_meaningOf_38 rfl ?_
          refine g_iV (pc := 40) hX (c_MD_lastOf l E m A gn ln n kn sn dn 1 mg SZ q (σ (q + 1)) hsq (by omega)) gy_MD_lastOf gv_MD_lastOf w_583 rfl (by decide) (by decide) [0, 4] rfl (by decide +kernel) rfl rfl rfl _ rfl (Nat.le_of_ble_eq_true rfl) d_MD_meaningOf_40 (by decide) (by decide) ?_
          refine g_icmp_ne (pc := 43) (tgt := 86) hX d_MD_meaningOf_43 (by decide) (by omega) (by omega) (fun c_4 => ?_) (fun c_4 => ?_)
          · refine g_iload (pc := 86) hX d_MD_meaningOf_86 rfl ?_
            refine g_istore_n (pc := 88) hX 3 d_MD_meaningOf_88 rfl (by decide) ?_
            refine g_aload_n (pc := 89) hX 0 d_MD_meaningOf_89 rfl rfl ?_
            refine g_get (pc := 90) hX f_MD_47 0 rfl rfl d_MD_meaningOf_90 ?_
            refine g_iload (pc := 93) hX d_MD_meaningOf_93 rfl ?_
            refine g_iadN (pc := 95) hX 5 (k := q) rfl (by omega) d_MD_meaningOf_95 ?_
            refine g_istore (pc := 96) hX d_MD_meaningOf_96 (by decide) ?_
            refine g_goto (pc := 98) (tgt := 17) hX d_MD_meaningOf_98 (by decide) ?_
            refine g_lv [(0, .ref m), (1, .int (iI (k : Int))), (2, .int (iI ((pre).length : Int))), (3, .int (iI (q : Int))), (4, .int (iI (WH q)))] ⟨rfl, rfl, rfl, rfl, rfl, trivial⟩ ?_
            exact ih pre q  (by omega) (by omega) (by
              have e7 : env LK p = env LK q := by
                rcases w6 with h | h
                · exact h.2.2
                · exact absurd h.1 (by omega)
              rw [hpre, e7]) hne
          · have e7 : env LK p = q :: env LK q := by
              rcases w6 with h | h
              · exact absurd h.2.1 (by omega)
              · rw [h.2]; unfold lastE; rw [if_pos c_3]
            refine g_aload_n (pc := 46) hX 0 d_MD_meaningOf_46 rfl rfl ?_
            refine g_get (pc := 47) hX f_MD_13 0 rfl rfl d_MD_meaningOf_47 ?_
            refine g_iload (pc := 50) hX d_MD_meaningOf_50 rfl ?_
            refine g_iadN (pc := 52) hX 2 (k := q) rfl (by omega) d_MD_meaningOf_52 ?_
            refine g_bipush (pc := 53) hX 6 d_MD_meaningOf_53 (by decide) ?_
            refine g_icmp_eq (pc := 55) (tgt := 83) hX d_MD_meaningOf_55 (by decide) (by omega) (by omega) (fun c_5 => ?_) (fun c_5 => ?_)
            · have hqk : LB q ≠ LB k := by first | omega | (have h9 := h6 q (by omega) (by omega); omega)
              refine g_iinc (pc := 83) hX d_MD_meaningOf_83 (by decide) rfl ?_
              rw [show ((pre.length : Int) + 1) = (((pre ++ [q]).length : Nat) : Int) by rw [List.length_append]; rfl]
              refine g_iload (pc := 86) hX d_MD_meaningOf_86 rfl ?_
              refine g_istore_n (pc := 88) hX 3 d_MD_meaningOf_88 rfl (by decide) ?_
              refine g_aload_n (pc := 89) hX 0 d_MD_meaningOf_89 rfl rfl ?_
              refine g_get (pc := 90) hX f_MD_47 0 rfl rfl d_MD_meaningOf_90 ?_
              refine g_iload (pc := 93) hX d_MD_meaningOf_93 rfl ?_
              refine g_iadN (pc := 95) hX 5 (k := q) rfl (by omega) d_MD_meaningOf_95 ?_
              refine g_istore (pc := 96) hX d_MD_meaningOf_96 (by decide) ?_
              refine g_goto (pc := 98) (tgt := 17) hX d_MD_meaningOf_98 (by decide) ?_
              refine g_lv [(0, .ref m), (1, .int (iI (k : Int))), (2, .int (iI ((pre ++ [q]).length : Int))), (3, .int (iI (q : Int))), (4, .int (iI (WH q)))] ⟨rfl, rfl, rfl, rfl, rfl, trivial⟩ ?_
              exact ih (pre ++ [q]) q  (by omega) (by omega) (by rw [hpre, e7, List.append_assoc]; rfl) (fun y hy => by
                rcases List.mem_append.mp hy with h | h
                · exact hne y h
                · rw [List.mem_singleton.mp h]; exact hqk)
            · refine g_aload_n (pc := 58) hX 0 d_MD_meaningOf_58 rfl rfl ?_
              refine g_get (pc := 59) hX f_MD_17 0 rfl rfl d_MD_meaningOf_59 ?_
              refine g_iload (pc := 62) hX d_MD_meaningOf_62 rfl ?_
              refine g_ladN (pc := 64) hX 3 (k := q) rfl (by omega) d_MD_meaningOf_64 ?_
              refine g_aload_n (pc := 65) hX 0 d_MD_meaningOf_65 rfl rfl ?_
              refine g_get (pc := 66) hX f_MD_17 0 rfl rfl d_MD_meaningOf_66 ?_
              refine g_iload_n (pc := 69) hX 1 d_MD_meaningOf_69 rfl rfl ?_
              refine g_ladN (pc := 70) hX 3 (k := k) rfl (by omega) d_MD_meaningOf_70 ?_
              refine g_lcmp_ne (pc := 71) (tgt := 83) hX d_MD_meaningOf_71 d_MD_meaningOf_72 (by decide) (by omega) (by omega) (fun c_6 => ?_) (fun c_6 => ?_)
              · have hqk : LB q ≠ LB k := by first | omega | (have h9 := h6 q (by omega) (by omega); omega)
                refine g_iinc (pc := 83) hX d_MD_meaningOf_83 (by decide) rfl ?_
                rw [show ((pre.length : Int) + 1) = (((pre ++ [q]).length : Nat) : Int) by rw [List.length_append]; rfl]
                refine g_iload (pc := 86) hX d_MD_meaningOf_86 rfl ?_
                refine g_istore_n (pc := 88) hX 3 d_MD_meaningOf_88 rfl (by decide) ?_
                refine g_aload_n (pc := 89) hX 0 d_MD_meaningOf_89 rfl rfl ?_
                refine g_get (pc := 90) hX f_MD_47 0 rfl rfl d_MD_meaningOf_90 ?_
                refine g_iload (pc := 93) hX d_MD_meaningOf_93 rfl ?_
                refine g_iadN (pc := 95) hX 5 (k := q) rfl (by omega) d_MD_meaningOf_95 ?_
                refine g_istore (pc := 96) hX d_MD_meaningOf_96 (by decide) ?_
                refine g_goto (pc := 98) (tgt := 17) hX d_MD_meaningOf_98 (by decide) ?_
                refine g_lv [(0, .ref m), (1, .int (iI (k : Int))), (2, .int (iI ((pre ++ [q]).length : Int))), (3, .int (iI (q : Int))), (4, .int (iI (WH q)))] ⟨rfl, rfl, rfl, rfl, rfl, trivial⟩ ?_
                exact ih (pre ++ [q]) q  (by omega) (by omega) (by rw [hpre, e7, List.append_assoc]; rfl) (fun y hy => by
                  rcases List.mem_append.mp hy with h | h
                  · exact hne y h
                  · rw [List.mem_singleton.mp h]; exact hqk)
              · have hbi := bIdx_at (g := LB) (x := LB k) (rest := env LK q) (by rw [hpre, e7]) hne (by omega)
                refine g_aload_n (pc := 75) hX 0 d_MD_meaningOf_75 rfl rfl ?_
                refine g_iload_n (pc := 76) hX 2 d_MD_meaningOf_76 rfl rfl ?_
                refine g_i2l (pc := 77) hX d_MD_meaningOf_77 (by omega) ?_
                refine g_put (pc := 78) hX f_MD_105 gt_MD 0 rfl rfl rfl rfl (Nat.le_of_ble_eq_true rfl) d_MD_meaningOf_78 ?_
                refine g_ws (mdO m A gn ln n kn sn dn 1 ((pre.length : Nat) : Int) ++ mG E A G ++ mI E A 1 LK ++ mL E A 2 LB ++ mI E A 11 SZ ++ mI E A 12 WH) rfl ?_
                refine g_iconst (pc := 81) hX d_MD_meaningOf_81 ?_
                exact g_iret (pc := 82) hX hE d_MD_meaningOf_82 (by decide) (by decide) ⟨1, ((pre.length : Nat) : Int), 0, rfl, rfl, ⟨Or.inl rfl, Or.inl ⟨rfl, by rw [bN_0s hk.2 (by rw [hbi]; omega), hbi]⟩⟩, rfl, rfl⟩
  refine g_lv [(0, .ref m), (1, .int (iI (k : Int))), (2, .int (iI (([] : List Nat).length : Int))), (3, .int (iI (k : Int))), (4, .int (iI (WH k)))] ⟨rfl, rfl, rfl, rfl, rfl, trivial⟩ ?_
  exact loop (k + 1) [] k  (by omega) (by omega) rfl (fun y hy => by cases hy)
  

abbrev rm_MD_bind : Room := { frames := 3, cells := 0, slots := 0, locals := 67 }
set_option maxHeartbeats 4000000 in
set_option maxRecDepth 100000 in
theorem c_MD_bind (l : Launch) (E : gE) (m : Nat) (A : Nat → Nat) (gn ln n kn sn dn : Nat) (mt mg : Int) (G LK LB K B DK DB SZ WH : Nat → Int) (hln : ln ≤ 3000) (hK : ∀ j, j < ln → 0 ≤ LK j ∧ LK j ≤ 6) (hLB : ∀ j, j < ln → 0 ≤ LB j ∧ LB j < 9223372036854775808) (h6 : ∀ j, j < ln → LK j = 6 → LB j = 0) (hk0 : ∀ j, j < ln → LK j = 0 → LB j ≠ 0) (hgn : gn ≤ 200) (hG : ∀ j, j < gn → gil (G j)) : Ct l E y_MD_bind b_MD_bind 3 (some .int) rm_MD_bind [.ref m] (mdO m A gn ln n kn sn dn mt mg ++ mG E A G ++ mI E A 1 LK ++ mL E A 2 LB ++ mI E A 3 K ++ mL E A 4 B ++ mI E A 9 DK ++ mL E A 10 DB ++ mI E A 11 SZ ++ mI E A 12 WH) (fun vv ww dc ds => (¬ OneT ln LK ∧ vv = some (.int (iI (-1))) ∧ ww = mdO m A gn ln n kn sn dn mt mg ++ mG E A G ++ mI E A 1 LK ++ mL E A 2 LB ++ mI E A 3 K ++ mL E A 4 B ++ mI E A 9 DK ++ mL E A 10 DB ++ mI E A 11 SZ ++ mI E A 12 WH ∧ dc = 0 ∧ ds = 0) ∨ (OneT ln LK ∧ ∃ (k : Nat) (D Q S W : Nat → Int) (mt2 mg2 : Int), k < ln ∧ (∀ j, j < k → bN LK LB gn G j ≠ none) ∧ bN LK LB gn G k = none ∧ vv = some (.int (iI (-2 - (k : Int)))) ∧ ww = mdO m A gn ln n kn sn dn mt2 mg2 ++ mG E A G ++ mI E A 1 LK ++ mL E A 2 LB ++ mI E A 3 K ++ mL E A 4 B ++ mI E A 9 D ++ mL E A 10 Q ++ mI E A 11 S ++ mI E A 12 W ∧ dc = 0 ∧ ds = 0) ∨ (OneT ln LK ∧ ∃ (F P D Q S W : Nat → Int) (mt2 mg2 : Int), (∀ j, j < ln → bN LK LB gn G j = some (F j, P j)) ∧ vv = some (.int (iI (ln : Int))) ∧ ww = mdO m A gn 0 ln kn sn ln mt2 mg2 ++ mG E A G ++ mI E A 1 LK ++ mL E A 2 LB ++ mI E A 3 F ++ mL E A 4 P ++ mI E A 9 D ++ mL E A 10 Q ++ mI E A 11 S ++ mI E A 12 W ∧ dc = 0 ∧ ds = 0)) := by
  refine g_start (by decide) (Nat.le_of_ble_eq_true rfl) (fun X hX hE hin => ?_)
  refine g_aload_n (pc := 0) hX 0 d_MD_bind_0 rfl rfl ?_
  refine g_iV (pc := 1) hX (c_MD_isOneTerm l E m A gn ln n kn sn dn mt mg LK (by omega) hK) gy_MD_isOneTerm gv_MD_isOneTerm w_558 rfl (by decide) (by decide) [0, 2] rfl (by decide +kernel) rfl rfl rfl _ rfl (Nat.le_of_ble_eq_true rfl) d_MD_bind_1 (by decide) (by decide) ?_
  refine g_bne (pc := 4) (tgt := 9) hX d_MD_bind_4 (by decide) (fun c_1 => ?_) (fun c_1 => ?_)
  · obtain ⟨hn0, σ, hz, h0⟩ := id c_1
    have hO : oneS ln LK σ := ⟨hz, h0, hn0, hln, fun j hj => by have := hK j hj; omega⟩
    refine g_aload_n (pc := 9) hX 0 d_MD_bind_9 rfl rfl ?_
    refine g_iconst (pc := 10) hX d_MD_bind_10 ?_
    refine g_callV (pc := 11) hX (c_MD_measure l E m A gn ln n kn sn dn mt mg LK K SZ WH _ LK ln σ (Or.inl ⟨rfl, rfl, rfl⟩) hO) gy_MD_measure gv_MD_measure w_565 rfl (by decide) (by decide) [0, 2, 4, 8, 9] rfl (by decide +kernel) rfl rfl rfl _ rfl (Nat.le_of_ble_eq_true rfl) d_MD_bind_11 (by decide) (by decide) (fun _ _ _ _ h => by obtain ⟨_, _, _, h2, _⟩ := h; rw [h2]; exact Nat.le_of_ble_eq_true rfl) (fun v w dc_2 ds_2 hp => ?_)
    obtain ⟨SZ_2, WH_2, rfl, rfl, f_2, rfl, rfl⟩ := hp
    refine g_wsP (mdO m A gn ln n kn sn dn mt mg ++ mG E A G ++ mI E A 1 LK ++ mL E A 2 LB ++ mI E A 3 K ++ mL E A 4 B ++ mI E A 9 DK ++ mL E A 10 DB ++ mI E A 11 SZ_2 ++ mI E A 12 WH_2) rfl rfl ?_
    have hm := f_2
    refine g_iconst (pc := 14) hX d_MD_bind_14 ?_
    refine g_istore_n (pc := 15) hX 1 d_MD_bind_15 rfl (by decide) ?_
    have loop : ∀ (d k : Nat) (mt2 mg2 : Int) (D Q : Nat → Int), ln < k + d → k ≤ ln → (∀ j, j < k → bN LK LB gn G j = some (D j, Q j)) → gW X (mdO m A gn ln n kn sn dn mt2 mg2 ++ mG E A G ++ mI E A 1 LK ++ mL E A 2 LB ++ mI E A 3 K ++ mL E A 4 B ++ mI E A 9 D ++ mL E A 10 Q ++ mI E A 11 SZ_2 ++ mI E A 12 WH_2) 0 0 16 [(0, .ref m), (1, .int (iI (k : Int)))] [] := by
      intro d
      induction d with
      | zero => intro k mt2 mg2 D Q hfu hk; omega
      | succ d ih =>
        intro k mt2 mg2 D Q hfu hk hI
        refine g_iload_n (pc := 16) hX 1 d_MD_bind_16 rfl rfl ?_
        refine g_aload_n (pc := 17) hX 0 d_MD_bind_17 rfl rfl ?_
        refine g_get (pc := 18) hX f_MD_83 0 rfl rfl d_MD_bind_18 ?_
        refine g_icmp_ge (pc := 21) (tgt := 134) hX d_MD_bind_21 (by decide) (by omega) (by omega) (fun c_3 => ?_) (fun c_3 => ?_)
        · refine g_aload_n (pc := 134) hX 0 d_MD_bind_134 rfl rfl ?_
          refine g_aload_n (pc := 135) hX 0 d_MD_bind_135 rfl rfl ?_
          refine g_get (pc := 136) hX f_MD_83 0 rfl rfl d_MD_bind_136 ?_
          refine g_put (pc := 139) hX f_MD_124 gt_MD 0 rfl rfl rfl rfl (Nat.le_of_ble_eq_true rfl) d_MD_bind_139 ?_
          refine g_ws (mdO m A gn ln n kn sn ln mt2 mg2 ++ mG E A G ++ mI E A 1 LK ++ mL E A 2 LB ++ mI E A 3 K ++ mL E A 4 B ++ mI E A 9 D ++ mL E A 10 Q ++ mI E A 11 SZ_2 ++ mI E A 12 WH_2) rfl ?_
          refine g_aload_n (pc := 142) hX 0 d_MD_bind_142 rfl rfl ?_
          refine g_iconst (pc := 143) hX d_MD_bind_143 ?_
          refine g_put (pc := 144) hX f_MD_83 gt_MD 0 rfl rfl rfl rfl (Nat.le_of_ble_eq_true rfl) d_MD_bind_144 ?_
          refine g_ws (mdO m A gn 0 n kn sn ln mt2 mg2 ++ mG E A G ++ mI E A 1 LK ++ mL E A 2 LB ++ mI E A 3 K ++ mL E A 4 B ++ mI E A 9 D ++ mL E A 10 Q ++ mI E A 11 SZ_2 ++ mI E A 12 WH_2) rfl ?_
          have hO2 : oneS ln D σ := ⟨Sz_pP (fun j hj => (bN_pP (hK j hj) (hI j (by omega))).1) hz, h0, hn0, hln, fun j hj => by have h9 := (bN_pP (hK j hj) (hI j (by omega))).2; omega⟩
          refine g_aload_n (pc := 147) hX 0 d_MD_bind_147 rfl rfl ?_
          refine g_callV (pc := 148) hX (c_MD_become l E m A gn 0 n kn sn ln mt2 mg2 LK K B D Q SZ_2 WH_2 σ hO2) gy_MD_become gv_MD_become w_587 rfl (by decide) (by decide) [0, 2, 4, 5, 6, 7, 8, 9] rfl (by decide +kernel) rfl rfl rfl _ rfl (Nat.le_of_ble_eq_true rfl) d_MD_bind_148 (by decide) (by decide) (fun _ _ _ _ h => by obtain ⟨_, _, _, _, _, h2, _⟩ := h; rw [h2]; exact Nat.le_of_ble_eq_true rfl) (fun v w dc_4 ds_4 hp => ?_)
          obtain ⟨K_4, B_4, SZ_4, WH_4, rfl, rfl, f_4, rfl, rfl⟩ := hp
          refine g_wsP (mdO m A gn 0 ln kn sn ln mt2 mg2 ++ mG E A G ++ mI E A 1 LK ++ mL E A 2 LB ++ mI E A 3 K_4 ++ mL E A 4 B_4 ++ mI E A 9 D ++ mL E A 10 Q ++ mI E A 11 SZ_4 ++ mI E A 12 WH_4) rfl rfl ?_
          refine g_aload_n (pc := 151) hX 0 d_MD_bind_151 rfl rfl ?_
          refine g_get (pc := 152) hX f_MD_53 0 rfl rfl d_MD_bind_152 ?_
          exact g_iret (pc := 155) hX hE d_MD_bind_155 (by decide) (by decide) (Or.inr (Or.inr ⟨c_1, K_4, B_4, D, Q, SZ_4, WH_4, mt2, mg2, fun j hj => by rw [(f_4.1 j hj).1, (f_4.1 j hj).2]; exact hI j (by omega), rfl, rfl, rfl, rfl⟩))
        · have hKk := hK k (by omega)
          have hBk := hLB k (by omega)
          refine g_aload_n (pc := 24) hX 0 d_MD_bind_24 rfl rfl ?_
          refine g_get (pc := 25) hX f_MD_13 0 rfl rfl d_MD_bind_25 ?_
          refine g_iload_n (pc := 28) hX 1 d_MD_bind_28 rfl rfl ?_
          refine g_iadN (pc := 29) hX 2 (k := k) rfl (by omega) d_MD_bind_29 ?_
          refine g_istore_n (pc := 30) hX 2 d_MD_bind_30 rfl (by decide) ?_
          refine g_aload_n (pc := 31) hX 0 d_MD_bind_31 rfl rfl ?_
          refine g_get (pc := 32) hX f_MD_38 0 rfl rfl d_MD_bind_32 ?_
          refine g_iload_n (pc := 35) hX 1 d_MD_bind_35 rfl rfl ?_
          refine g_iload_n (pc := 36) hX 2 d_MD_bind_36 rfl rfl ?_
          refine g_bipush (pc := 37) hX 6 d_MD_bind_37 (by decide) ?_
          refine g_icmp_ne (pc := 39) (tgt := 46) hX d_MD_bind_39 (by decide) (by omega) (by omega) (fun c_5 => ?_) (fun c_5 => ?_)
          · refine g_iload_n (pc := 46) hX 2 d_MD_bind_46 rfl rfl ?_
            refine g_iasN (pc := 47) hX 6 (k := k) (x := LK k) rfl (by omega) d_MD_bind_47 ?_
            refine g_ws (mdO m A gn ln n kn sn dn mt2 mg2 ++ mG E A G ++ mI E A 1 LK ++ mL E A 2 LB ++ mI E A 3 K ++ mL E A 4 B ++ mI E A 9 (uZ D k (LK k)) ++ mL E A 10 Q ++ mI E A 11 SZ_2 ++ mI E A 12 WH_2) rfl ?_
            refine g_aload_n (pc := 48) hX 0 d_MD_bind_48 rfl rfl ?_
            refine g_get (pc := 49) hX f_MD_41 0 rfl rfl d_MD_bind_49 ?_
            refine g_iload_n (pc := 52) hX 1 d_MD_bind_52 rfl rfl ?_
            refine g_iload_n (pc := 53) hX 2 d_MD_bind_53 rfl rfl ?_
            refine g_if_le (pc := 54) (tgt := 74) hX d_MD_bind_54 (by decide) (by omega) (fun c_6 => ?_) (fun c_6 => ?_)
            · refine g_iload_n (pc := 74) hX 2 d_MD_bind_74 rfl rfl ?_
              refine g_bipush (pc := 75) hX 6 d_MD_bind_75 (by decide) ?_
              refine g_icmp_ne (pc := 77) (tgt := 84) hX d_MD_bind_77 (by decide) (by omega) (by omega) (fun c_7 => ?_) (fun c_7 => ?_)
              · refine g_aload_n (pc := 84) hX 0 d_MD_bind_84 rfl rfl ?_
                refine g_get (pc := 85) hX f_MD_17 0 rfl rfl d_MD_bind_85 ?_
                refine g_iload_n (pc := 88) hX 1 d_MD_bind_88 rfl rfl ?_
                refine g_ladN (pc := 89) hX 3 (k := k) rfl (by omega) d_MD_bind_89 ?_
                refine g_lasN (pc := 90) hX 7 (k := k) (x := LB k) rfl (by omega) d_MD_bind_90 ?_
                refine g_ws (mdO m A gn ln n kn sn dn mt2 mg2 ++ mG E A G ++ mI E A 1 LK ++ mL E A 2 LB ++ mI E A 3 K ++ mL E A 4 B ++ mI E A 9 (uZ D k (LK k)) ++ mL E A 10 (uZ Q k (LB k)) ++ mI E A 11 SZ_2 ++ mI E A 12 WH_2) rfl ?_
                refine g_iload_n (pc := 91) hX 2 d_MD_bind_91 rfl rfl ?_
                refine g_if_ne (pc := 92) (tgt := 128) hX d_MD_bind_92 (by decide) (by omega) (fun c_8 => ?_) (fun c_8 => ?_)
                · have hb : bN LK LB gn G k = some (LK k, LB k) := bN_o (by omega)
                  refine g_iinc (pc := 128) hX d_MD_bind_128 (by decide) rfl ?_
                  refine g_goto (pc := 131) (tgt := 16) hX d_MD_bind_131 (by decide) ?_
                  refine g_lv [(0, .ref m), (1, .int (iI ((k + 1 : Nat) : Int)))] ⟨rfl, rfl, trivial⟩ ?_
                  exact ih (k + 1) mt2 mg2 (uZ D k (LK k)) (uZ Q k (LB k)) (by omega) (by omega) (fun j hj => by
                    by_cases e : j = k
                    · subst e; rw [uZ_s, uZ_s]; exact hb
                    · repeat rw [uZ_n e]
                      exact hI j (by omega))
                · have hk0k := hk0 k (by omega) (by omega)
                  refine g_aload_n (pc := 95) hX 0 d_MD_bind_95 rfl rfl ?_
                  refine g_get (pc := 96) hX f_MD_38 0 rfl rfl d_MD_bind_96 ?_
                  refine g_iload_n (pc := 99) hX 1 d_MD_bind_99 rfl rfl ?_
                  refine g_aload_n (pc := 100) hX 0 d_MD_bind_100 rfl rfl ?_
                  refine g_iload_n (pc := 101) hX 1 d_MD_bind_101 rfl rfl ?_
                  refine g_callV (pc := 102) hX (c_MD_meaningOf l E m A gn ln n kn sn dn mt2 mg2 G LK LB SZ_2 WH_2 k σ hO hm (by omega) hLB h6 hk0k (by omega) hG) gy_MD_meaningOf gv_MD_meaningOf w_576 rfl (by decide) (by decide) [0, 1, 2, 3, 8, 9] rfl (by decide +kernel) rfl rfl rfl _ rfl (Nat.le_of_ble_eq_true rfl) d_MD_bind_102 (by decide) (by decide) (fun _ _ _ _ h => by obtain ⟨_, _, _, _, h2, _⟩ := h; rw [h2]; exact Nat.le_of_ble_eq_true rfl) (fun v w dc_9 ds_9 hp => ?_)
                  obtain ⟨mt_9, mg_9, r_9, rfl, rfl, f_9, rfl, rfl⟩ := hp
                  refine g_wsP (mdO m A gn ln n kn sn dn mt_9 mg_9 ++ mG E A G ++ mI E A 1 LK ++ mL E A 2 LB ++ mI E A 3 K ++ mL E A 4 B ++ mI E A 9 (uZ D k (LK k)) ++ mL E A 10 (uZ Q k (LB k)) ++ mI E A 11 SZ_2 ++ mI E A 12 WH_2) rfl rfl ?_
                  have hrr := f_9.1
                  refine g_iasN (pc := 105) hX 6 (k := k) (x := r_9) rfl (by omega) d_MD_bind_105 ?_
                  refine g_ws (mdO m A gn ln n kn sn dn mt_9 mg_9 ++ mG E A G ++ mI E A 1 LK ++ mL E A 2 LB ++ mI E A 3 K ++ mL E A 4 B ++ mI E A 9 (uZ (uZ D k (LK k)) k r_9) ++ mL E A 10 (uZ Q k (LB k)) ++ mI E A 11 SZ_2 ++ mI E A 12 WH_2) rfl ?_
                  refine g_aload_n (pc := 106) hX 0 d_MD_bind_106 rfl rfl ?_
                  refine g_get (pc := 107) hX f_MD_41 0 rfl rfl d_MD_bind_107 ?_
                  refine g_iload_n (pc := 110) hX 1 d_MD_bind_110 rfl rfl ?_
                  refine g_aload_n (pc := 111) hX 0 d_MD_bind_111 rfl rfl ?_
                  refine g_get (pc := 112) hX f_MD_105 0 rfl rfl d_MD_bind_112 ?_
                  refine g_lasN (pc := 115) hX 7 (k := k) (x := mg_9) rfl (by omega) d_MD_bind_115 ?_
                  refine g_ws (mdO m A gn ln n kn sn dn mt_9 mg_9 ++ mG E A G ++ mI E A 1 LK ++ mL E A 2 LB ++ mI E A 3 K ++ mL E A 4 B ++ mI E A 9 (uZ (uZ D k (LK k)) k r_9) ++ mL E A 10 (uZ (uZ Q k (LB k)) k mg_9) ++ mI E A 11 SZ_2 ++ mI E A 12 WH_2) rfl ?_
                  refine g_aload_n (pc := 116) hX 0 d_MD_bind_116 rfl rfl ?_
                  have hmm : mt_9 = 0 ∨ mt_9 = 1 := by
                    rcases f_9.2 with h | h
                    · exact Or.inr h.1
                    · exact Or.inl h.1
                  refine g_get (pc := 117) hX f_MD_94 0 rfl rfl d_MD_bind_117 ?_
                  refine g_if_ne (pc := 120) (tgt := 128) hX d_MD_bind_120 (by decide) (by omega) (fun c_10 => ?_) (fun c_10 => ?_)
                  · have hb : bN LK LB gn G k = some (r_9, mg_9) := by
                      rcases f_9.2 with h | h
                      · exact h.2
                      · exfalso; omega
                    refine g_iinc (pc := 128) hX d_MD_bind_128 (by decide) rfl ?_
                    refine g_goto (pc := 131) (tgt := 16) hX d_MD_bind_131 (by decide) ?_
                    refine g_lv [(0, .ref m), (1, .int (iI ((k + 1 : Nat) : Int)))] ⟨rfl, rfl, trivial⟩ ?_
                    exact ih (k + 1) mt_9 mg_9 (uZ (uZ D k (LK k)) k r_9) (uZ (uZ Q k (LB k)) k mg_9) (by omega) (by omega) (fun j hj => by
                      by_cases e : j = k
                      · subst e; rw [uZ_s, uZ_s]; exact hb
                      · repeat rw [uZ_n e]
                        exact hI j (by omega))
                  · refine g_bipush (pc := 123) hX (-2) d_MD_bind_123 (by decide) ?_
                    refine g_iload_n (pc := 125) hX 1 d_MD_bind_125 rfl rfl ?_
                    refine g_isub (pc := 126) hX d_MD_bind_126 ?_
                    exact g_iret (pc := 127) hX hE d_MD_bind_127 (by decide) (by decide) (Or.inr (Or.inl ⟨c_1, k, uZ (uZ D k (LK k)) k r_9, uZ (uZ Q k (LB k)) k mg_9, SZ_2, WH_2, mt_9, mg_9, by omega, fun j hj => by rw [hI j hj]; exact Option.some_ne_none _, by
                  rcases f_9.2 with h | h
                  · exfalso; omega
                  · exact h.2, rfl, rfl, rfl, rfl⟩))
              · exfalso; omega
            · refine g_iload_n (pc := 57) hX 2 d_MD_bind_57 rfl rfl ?_
              refine g_iconst (pc := 58) hX d_MD_bind_58 ?_
              refine g_icmp_ge (pc := 59) (tgt := 74) hX d_MD_bind_59 (by decide) (by omega) (by omega) (fun c_11 => ?_) (fun c_11 => ?_)
              · refine g_iload_n (pc := 74) hX 2 d_MD_bind_74 rfl rfl ?_
                refine g_bipush (pc := 75) hX 6 d_MD_bind_75 (by decide) ?_
                refine g_icmp_ne (pc := 77) (tgt := 84) hX d_MD_bind_77 (by decide) (by omega) (by omega) (fun c_12 => ?_) (fun c_12 => ?_)
                · refine g_aload_n (pc := 84) hX 0 d_MD_bind_84 rfl rfl ?_
                  refine g_get (pc := 85) hX f_MD_17 0 rfl rfl d_MD_bind_85 ?_
                  refine g_iload_n (pc := 88) hX 1 d_MD_bind_88 rfl rfl ?_
                  refine g_ladN (pc := 89) hX 3 (k := k) rfl (by omega) d_MD_bind_89 ?_
                  refine g_lasN (pc := 90) hX 7 (k := k) (x := LB k) rfl (by omega) d_MD_bind_90 ?_
                  refine g_ws (mdO m A gn ln n kn sn dn mt2 mg2 ++ mG E A G ++ mI E A 1 LK ++ mL E A 2 LB ++ mI E A 3 K ++ mL E A 4 B ++ mI E A 9 (uZ D k (LK k)) ++ mL E A 10 (uZ Q k (LB k)) ++ mI E A 11 SZ_2 ++ mI E A 12 WH_2) rfl ?_
                  refine g_iload_n (pc := 91) hX 2 d_MD_bind_91 rfl rfl ?_
                  refine g_if_ne (pc := 92) (tgt := 128) hX d_MD_bind_92 (by decide) (by omega) (fun c_13 => ?_) (fun c_13 => ?_)
                  · have hb : bN LK LB gn G k = some (LK k, LB k) := bN_o (by omega)
                    refine g_iinc (pc := 128) hX d_MD_bind_128 (by decide) rfl ?_
                    refine g_goto (pc := 131) (tgt := 16) hX d_MD_bind_131 (by decide) ?_
                    refine g_lv [(0, .ref m), (1, .int (iI ((k + 1 : Nat) : Int)))] ⟨rfl, rfl, trivial⟩ ?_
                    exact ih (k + 1) mt2 mg2 (uZ D k (LK k)) (uZ Q k (LB k)) (by omega) (by omega) (fun j hj => by
                      by_cases e : j = k
                      · subst e; rw [uZ_s, uZ_s]; exact hb
                      · repeat rw [uZ_n e]
                        exact hI j (by omega))
                  · have hk0k := hk0 k (by omega) (by omega)
                    refine g_aload_n (pc := 95) hX 0 d_MD_bind_95 rfl rfl ?_
                    refine g_get (pc := 96) hX f_MD_38 0 rfl rfl d_MD_bind_96 ?_
                    refine g_iload_n (pc := 99) hX 1 d_MD_bind_99 rfl rfl ?_
                    refine g_aload_n (pc := 100) hX 0 d_MD_bind_100 rfl rfl ?_
                    refine g_iload_n (pc := 101) hX 1 d_MD_bind_101 rfl rfl ?_
                    refine g_callV (pc := 102) hX (c_MD_meaningOf l E m A gn ln n kn sn dn mt2 mg2 G LK LB SZ_2 WH_2 k σ hO hm (by omega) hLB h6 hk0k (by omega) hG) gy_MD_meaningOf gv_MD_meaningOf w_576 rfl (by decide) (by decide) [0, 1, 2, 3, 8, 9] rfl (by decide +kernel) rfl rfl rfl _ rfl (Nat.le_of_ble_eq_true rfl) d_MD_bind_102 (by decide) (by decide) (fun _ _ _ _ h => by obtain ⟨_, _, _, _, h2, _⟩ := h; rw [h2]; exact Nat.le_of_ble_eq_true rfl) (fun v w dc_14 ds_14 hp => ?_)
                    obtain ⟨mt_14, mg_14, r_14, rfl, rfl, f_14, rfl, rfl⟩ := hp
                    refine g_wsP (mdO m A gn ln n kn sn dn mt_14 mg_14 ++ mG E A G ++ mI E A 1 LK ++ mL E A 2 LB ++ mI E A 3 K ++ mL E A 4 B ++ mI E A 9 (uZ D k (LK k)) ++ mL E A 10 (uZ Q k (LB k)) ++ mI E A 11 SZ_2 ++ mI E A 12 WH_2) rfl rfl ?_
                    have hrr := f_14.1
                    refine g_iasN (pc := 105) hX 6 (k := k) (x := r_14) rfl (by omega) d_MD_bind_105 ?_
                    refine g_ws (mdO m A gn ln n kn sn dn mt_14 mg_14 ++ mG E A G ++ mI E A 1 LK ++ mL E A 2 LB ++ mI E A 3 K ++ mL E A 4 B ++ mI E A 9 (uZ (uZ D k (LK k)) k r_14) ++ mL E A 10 (uZ Q k (LB k)) ++ mI E A 11 SZ_2 ++ mI E A 12 WH_2) rfl ?_
                    refine g_aload_n (pc := 106) hX 0 d_MD_bind_106 rfl rfl ?_
                    refine g_get (pc := 107) hX f_MD_41 0 rfl rfl d_MD_bind_107 ?_
                    refine g_iload_n (pc := 110) hX 1 d_MD_bind_110 rfl rfl ?_
                    refine g_aload_n (pc := 111) hX 0 d_MD_bind_111 rfl rfl ?_
                    refine g_get (pc := 112) hX f_MD_105 0 rfl rfl d_MD_bind_112 ?_
                    refine g_lasN (pc := 115) hX 7 (k := k) (x := mg_14) rfl (by omega) d_MD_bind_115 ?_
                    refine g_ws (mdO m A gn ln n kn sn dn mt_14 mg_14 ++ mG E A G ++ mI E A 1 LK ++ mL E A 2 LB ++ mI E A 3 K ++ mL E A 4 B ++ mI E A 9 (uZ (uZ D k (LK k)) k r_14) ++ mL E A 10 (uZ (uZ Q k (LB k)) k mg_14) ++ mI E A 11 SZ_2 ++ mI E A 12 WH_2) rfl ?_
                    refine g_aload_n (pc := 116) hX 0 d_MD_bind_116 rfl rfl ?_
                    have hmm : mt_14 = 0 ∨ mt_14 = 1 := by
                      rcases f_14.2 with h | h
                      · exact Or.inr h.1
                      · exact Or.inl h.1
                    refine g_get (pc := 117) hX f_MD_94 0 rfl rfl d_MD_bind_117 ?_
                    refine g_if_ne (pc := 120) (tgt := 128) hX d_MD_bind_120 (by decide) (by omega) (fun c_15 => ?_) (fun c_15 => ?_)
                    · have hb : bN LK LB gn G k = some (r_14, mg_14) := by
                        rcases f_14.2 with h | h
                        · exact h.2
                        · exfalso; omega
                      refine g_iinc (pc := 128) hX d_MD_bind_128 (by decide) rfl ?_
                      refine g_goto (pc := 131) (tgt := 16) hX d_MD_bind_131 (by decide) ?_
                      refine g_lv [(0, .ref m), (1, .int (iI ((k + 1 : Nat) : Int)))] ⟨rfl, rfl, trivial⟩ ?_
                      exact ih (k + 1) mt_14 mg_14 (uZ (uZ D k (LK k)) k r_14) (uZ (uZ Q k (LB k)) k mg_14) (by omega) (by omega) (fun j hj => by
                        by_cases e : j = k
                        · subst e; rw [uZ_s, uZ_s]; exact hb
                        · repeat rw [uZ_n e]
                          exact hI j (by omega))
                    · refine g_bipush (pc := 123) hX (-2) d_MD_bind_123 (by decide) ?_
                      refine g_iload_n (pc := 125) hX 1 d_MD_bind_125 rfl rfl ?_
                      refine g_isub (pc := 126) hX d_MD_bind_126 ?_
                      exact g_iret (pc := 127) hX hE d_MD_bind_127 (by decide) (by decide) (Or.inr (Or.inl ⟨c_1, k, uZ (uZ D k (LK k)) k r_14, uZ (uZ Q k (LB k)) k mg_14, SZ_2, WH_2, mt_14, mg_14, by omega, fun j hj => by rw [hI j hj]; exact Option.some_ne_none _, by
                  rcases f_14.2 with h | h
                  · exfalso; omega
                  · exact h.2, rfl, rfl, rfl, rfl⟩))
                · exfalso; omega
              · refine g_aload_n (pc := 62) hX 0 d_MD_bind_62 rfl rfl ?_
                refine g_get (pc := 63) hX f_MD_17 0 rfl rfl d_MD_bind_63 ?_
                refine g_iload_n (pc := 66) hX 1 d_MD_bind_66 rfl rfl ?_
                refine g_ladN (pc := 67) hX 3 (k := k) rfl (by omega) d_MD_bind_67 ?_
                refine g_lS (pc := 68) hX (c_MD_cut l E _ (by omega) (by omega)) gy_MD_cut w_574 w_573 rfl (by decide) (by decide) [] rfl (by decide +kernel) _ rfl (Nat.le_of_ble_eq_true rfl) d_MD_bind_68 (by decide) (by decide) ?_
                refine g_goto (pc := 71) (tgt := 90) hX d_MD_bind_71 (by decide) ?_
                refine g_lasN (pc := 90) hX 7 (k := k) (x := f4 (LB k)) rfl (by omega) d_MD_bind_90 ?_
                refine g_ws (mdO m A gn ln n kn sn dn mt2 mg2 ++ mG E A G ++ mI E A 1 LK ++ mL E A 2 LB ++ mI E A 3 K ++ mL E A 4 B ++ mI E A 9 (uZ D k (LK k)) ++ mL E A 10 (uZ Q k (f4 (LB k))) ++ mI E A 11 SZ_2 ++ mI E A 12 WH_2) rfl ?_
                refine g_iload_n (pc := 91) hX 2 d_MD_bind_91 rfl rfl ?_
                refine g_if_ne (pc := 92) (tgt := 128) hX d_MD_bind_92 (by decide) (by omega) (fun c_16 => ?_) (fun c_16 => ?_)
                · have hb : bN LK LB gn G k = some (LK k, f4 (LB k)) := bN_b (by omega)
                  refine g_iinc (pc := 128) hX d_MD_bind_128 (by decide) rfl ?_
                  refine g_goto (pc := 131) (tgt := 16) hX d_MD_bind_131 (by decide) ?_
                  refine g_lv [(0, .ref m), (1, .int (iI ((k + 1 : Nat) : Int)))] ⟨rfl, rfl, trivial⟩ ?_
                  exact ih (k + 1) mt2 mg2 (uZ D k (LK k)) (uZ Q k (f4 (LB k))) (by omega) (by omega) (fun j hj => by
                    by_cases e : j = k
                    · subst e; rw [uZ_s, uZ_s]; exact hb
                    · repeat rw [uZ_n e]
                      exact hI j (by omega))
                · exfalso; omega
          · refine g_iconst (pc := 42) hX d_MD_bind_42 ?_
            refine g_goto (pc := 43) (tgt := 47) hX d_MD_bind_43 (by decide) ?_
            refine g_iasN (pc := 47) hX 6 (k := k) (x := 2) rfl (by omega) d_MD_bind_47 ?_
            refine g_ws (mdO m A gn ln n kn sn dn mt2 mg2 ++ mG E A G ++ mI E A 1 LK ++ mL E A 2 LB ++ mI E A 3 K ++ mL E A 4 B ++ mI E A 9 (uZ D k 2) ++ mL E A 10 Q ++ mI E A 11 SZ_2 ++ mI E A 12 WH_2) rfl ?_
            refine g_aload_n (pc := 48) hX 0 d_MD_bind_48 rfl rfl ?_
            refine g_get (pc := 49) hX f_MD_41 0 rfl rfl d_MD_bind_49 ?_
            refine g_iload_n (pc := 52) hX 1 d_MD_bind_52 rfl rfl ?_
            refine g_iload_n (pc := 53) hX 2 d_MD_bind_53 rfl rfl ?_
            refine g_if_le (pc := 54) (tgt := 74) hX d_MD_bind_54 (by decide) (by omega) (fun c_17 => ?_) (fun c_17 => ?_)
            · exfalso; omega
            · refine g_iload_n (pc := 57) hX 2 d_MD_bind_57 rfl rfl ?_
              refine g_iconst (pc := 58) hX d_MD_bind_58 ?_
              refine g_icmp_ge (pc := 59) (tgt := 74) hX d_MD_bind_59 (by decide) (by omega) (by omega) (fun c_18 => ?_) (fun c_18 => ?_)
              · refine g_iload_n (pc := 74) hX 2 d_MD_bind_74 rfl rfl ?_
                refine g_bipush (pc := 75) hX 6 d_MD_bind_75 (by decide) ?_
                refine g_icmp_ne (pc := 77) (tgt := 84) hX d_MD_bind_77 (by decide) (by omega) (by omega) (fun c_19 => ?_) (fun c_19 => ?_)
                · exfalso; omega
                · refine g_lconst (pc := 80) hX 0 d_MD_bind_80 (by decide) ?_
                  refine g_goto (pc := 81) (tgt := 90) hX d_MD_bind_81 (by decide) ?_
                  refine g_lasN (pc := 90) hX 7 (k := k) (x := 0) rfl (by omega) d_MD_bind_90 ?_
                  refine g_ws (mdO m A gn ln n kn sn dn mt2 mg2 ++ mG E A G ++ mI E A 1 LK ++ mL E A 2 LB ++ mI E A 3 K ++ mL E A 4 B ++ mI E A 9 (uZ D k 2) ++ mL E A 10 (uZ Q k 0) ++ mI E A 11 SZ_2 ++ mI E A 12 WH_2) rfl ?_
                  refine g_iload_n (pc := 91) hX 2 d_MD_bind_91 rfl rfl ?_
                  refine g_if_ne (pc := 92) (tgt := 128) hX d_MD_bind_92 (by decide) (by omega) (fun c_20 => ?_) (fun c_20 => ?_)
                  · have hb : bN LK LB gn G k = some (2, 0) := bN_6 (by omega)
                    refine g_iinc (pc := 128) hX d_MD_bind_128 (by decide) rfl ?_
                    refine g_goto (pc := 131) (tgt := 16) hX d_MD_bind_131 (by decide) ?_
                    refine g_lv [(0, .ref m), (1, .int (iI ((k + 1 : Nat) : Int)))] ⟨rfl, rfl, trivial⟩ ?_
                    exact ih (k + 1) mt2 mg2 (uZ D k 2) (uZ Q k 0) (by omega) (by omega) (fun j hj => by
                      by_cases e : j = k
                      · subst e; rw [uZ_s, uZ_s]; exact hb
                      · repeat rw [uZ_n e]
                        exact hI j (by omega))
                  · exfalso; omega
              · exfalso; omega
    refine g_lv [(0, .ref m), (1, .int (iI ((0 : Nat) : Int)))] ⟨rfl, rfl, trivial⟩ ?_
    exact loop (ln + 1) 0 mt mg DK DB (by omega) (by omega) (fun j hj => by omega)
    
  · refine g_iconst (pc := 7) hX d_MD_bind_7 ?_
    exact g_iret (pc := 8) hX hE d_MD_bind_8 (by decide) (by decide) (Or.inl ⟨c_1, rfl, rfl, rfl, rfl⟩)
