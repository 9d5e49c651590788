abbrev rm_MD_contract : Room := { frames := 3, cells := 0, slots := 0, locals := 69 }
set_option maxHeartbeats 4000000 in
set_option maxRecDepth 100000 in
theorem c_MD_contract (l : Launch) (E : gE) (m : Nat) (A : Nat → Nat) (gn ln n kn sn dn : Nat) (mt mg : Int) (LK K B DK DB SZ WH : Nat → Int) (k : Int) (hk : gin k) (σ : Nat → Nat) (hte : n = 0 ∨ oneS n K σ) (hB : ∀ j, j < n → 0 ≤ B j ∧ B j < 4611686018427387904) (hOut : ∀ (i b v : Nat) (D Q : Nat → Int), cbv K σ n i b v → (cOut K B σ n i b v).length ≤ 3000 → Lr ((cOut K B σ n i b v).length) D Q = cOut K B σ n i b v → ∃ τ, oneS ((cOut K B σ n i b v).length) D τ) : Ct l E y_MD_contract b_MD_contract 11 (some .int) rm_MD_contract [.ref m, .int (iI k)] (mdO m A gn ln n kn sn dn mt mg ++ mI E A 1 LK ++ mI E A 3 K ++ mL E A 4 B ++ mI E A 9 DK ++ mL E A 10 DB ++ mI E A 11 SZ ++ mI E A 12 WH) (fun vv ww dc ds => ((∀ i b v : Nat, k = i → ¬ cbv K σ n i b v) ∧ ∃ S W : Nat → Int, vv = some (.int (iI (-1))) ∧ ww = mdO m A gn ln n kn sn dn mt mg ++ mI E A 1 LK ++ mI E A 3 K ++ mL E A 4 B ++ mI E A 9 DK ++ mL E A 10 DB ++ mI E A 11 S ++ mI E A 12 W ∧ dc = 0 ∧ ds = 0) ∨ (∃ (i b v : Nat) (S W : Nat → Int), k = i ∧ cbv K σ n i b v ∧ 3000 < (cOut K B σ n i b v).length ∧ vv = some (.int (iI (-2))) ∧ ww = mdO m A gn ln n kn sn dn mt mg ++ mI E A 1 LK ++ mI E A 3 K ++ mL E A 4 B ++ mI E A 9 DK ++ mL E A 10 DB ++ mI E A 11 S ++ mI E A 12 W ∧ dc = 0 ∧ ds = 0) ∨ (∃ (i b v : Nat) (F P D Q S W : Nat → Int), k = i ∧ cbv K σ n i b v ∧ (cOut K B σ n i b v).length ≤ 3000 ∧ vv = some (.int (iI (((cOut K B σ n i b v).length : Nat) : Int))) ∧ ww = mdO m A gn ln ((cOut K B σ n i b v).length) kn sn ((cOut K B σ n i b v).length) mt mg ++ mI E A 1 LK ++ mI E A 3 F ++ mL E A 4 P ++ mI E A 9 D ++ mL E A 10 Q ++ mI E A 11 S ++ mI E A 12 W ∧ Lr ((cOut K B σ n i b v).length) F P = cOut K B σ n i b v ∧ dc = 0 ∧ ds = 0)) := by
  have hn3 : n ≤ 3000 := by
    rcases hte with h | h
    · omega
    · exact h.2.2.2.1
  refine g_start (by decide) (Nat.le_of_ble_eq_true rfl) (fun X hX hE hin => ?_)
  refine g_iload_n (pc := 0) hX 1 d_MD_contract_0 rfl rfl ?_
  refine g_if_lt (pc := 1) (tgt := 12) hX d_MD_contract_1 (by decide) (by omega) (fun c_1 => ?_) (fun c_1 => ?_)
  · refine g_iconst (pc := 12) hX d_MD_contract_12 ?_
    exact g_iret (pc := 13) hX hE d_MD_contract_13 (by decide) (by decide) (Or.inl ⟨fun i b v e h => by have := h.1; omega, SZ, WH, rfl, rfl, rfl, rfl⟩)
  · refine g_iload_n (pc := 4) hX 1 d_MD_contract_4 rfl rfl ?_
    refine g_aload_n (pc := 5) hX 0 d_MD_contract_5 rfl rfl ?_
    refine g_get (pc := 6) hX f_MD_53 0 rfl rfl d_MD_contract_6 ?_
    refine g_icmp_lt (pc := 9) (tgt := 14) hX d_MD_contract_9 (by decide) (by omega) (by omega) (fun c_2 => ?_) (fun c_2 => ?_)
    · obtain ⟨i, rfl⟩ : ∃ i : Nat, k = i := ⟨k.toNat, by omega⟩
      have hi : i < n := by omega
      have hO : oneS n K σ := by
        rcases hte with h | h
        · omega
        · exact h
      obtain ⟨hz, h0, hN, hN2, hkd⟩ := id hO
      have hki := hkd i hi
      have hBg : ∀ j, j < n → gil (B j) := fun j hj => by have := hB j hj; omega
      refine g_aload_n (pc := 14) hX 0 d_MD_contract_14 rfl rfl ?_
      refine g_iconst (pc := 15) hX d_MD_contract_15 ?_
      refine g_callV (pc := 16) hX (c_MD_measure l E m A gn ln n kn sn dn mt mg LK K SZ WH _ K n σ (Or.inr ⟨rfl, rfl, rfl⟩) hO) gy_MD_measure gv_MD_measure w_565 rfl (by decide) (by decide) [0, 1, 2, 6, 7] rfl (by decide +kernel) rfl rfl rfl _ rfl (Nat.le_of_ble_eq_true rfl) d_MD_contract_16 (by decide) (by decide) (fun _ _ _ _ h => by obtain ⟨_, _, _, h2, _⟩ := h; rw [h2]; exact Nat.le_of_ble_eq_true rfl) (fun v w dc_3 ds_3 hp => ?_)
      obtain ⟨SZ_3, WH_3, rfl, rfl, f_3, rfl, rfl⟩ := hp
      refine g_wsP (mdO m A gn ln n kn sn dn mt mg ++ mI E A 1 LK ++ mI E A 3 K ++ mL E A 4 B ++ mI E A 9 DK ++ mL E A 10 DB ++ mI E A 11 SZ_3 ++ mI E A 12 WH_3) rfl rfl ?_
      have hm := f_3
      have cont : ∀ b v : Nat, cbv K σ n i b v → b < n → bP (K b) → v < n → gW X (mdO m A gn ln n kn sn dn mt mg ++ mI E A 1 LK ++ mI E A 3 K ++ mL E A 4 B ++ mI E A 9 DK ++ mL E A 10 DB ++ mI E A 11 SZ_3 ++ mI E A 12 WH_3) 0 0 99 [(0, .ref m), (1, .int (iI (i : Int))), (3, .int (iI (b : Int))), (4, .int (iI ((b + 1 + σ (b + 1) : Nat) : Int))), (5, .int (iI (v : Int)))] [] := by
        intro b v hcbv hb1 hb0 hv1
        obtain ⟨z1, z2, z3⟩ := hO.pt hb1 (by omega)
        obtain ⟨z4, z5⟩ := hO.en hb1
        obtain ⟨x4, x5⟩ := hO.en hi
        obtain ⟨y4, y5⟩ := hO.en hv1
        obtain ⟨u4, u5⟩ := hO.en z2
        refine g_aload_n (pc := 99) hX 0 d_MD_contract_99 rfl rfl ?_
        refine g_iload_n (pc := 100) hX 3 d_MD_contract_100 rfl rfl ?_
        refine g_callV (pc := 101) hX (c_MD_uses l E m A gn ln n kn sn dn mt mg LK K B SZ_3 WH_3 _ (by omega) σ (Or.inr hO) hBg) gy_MD_uses gv_MD_uses w_612 rfl (by decide) (by decide) [0, 1, 2, 3, 6, 7] rfl (by decide +kernel) rfl rfl rfl _ rfl (Nat.le_of_ble_eq_true rfl) d_MD_contract_101 (by decide) (by decide) (fun _ _ _ _ h => by obtain ⟨_, _, _, h2, _⟩ := h; rw [h2]; exact Nat.le_of_ble_eq_true rfl) (fun v w dc_4 ds_4 hp => ?_)
        obtain ⟨SZ_4, WH_4, rfl, rfl, f_4, rfl, rfl⟩ := hp
        refine g_wsP (mdO m A gn ln n kn sn dn mt mg ++ mI E A 1 LK ++ mI E A 3 K ++ mL E A 4 B ++ mI E A 9 DK ++ mL E A 10 DB ++ mI E A 11 SZ_4 ++ mI E A 12 WH_4) rfl rfl ?_
        have hm2 := f_4.1 ⟨by omega, by omega, hb0⟩
        have hsi := hm2.1 i hi
        have hsb := hm2.1 (b + 1 + σ (b + 1)) z2
        have hsv := hm2.1 v hv1
        have hu : usesM n K B σ (b : Int) = (((uCnt K B b (b + 1 + σ (b + 1)) (σ (b + 1 + σ (b + 1)))) : Nat) : Int) := if_pos ⟨by omega, by omega, hb0⟩
        rw [hu]
        have hdb := dep_2 hz h0 hb1 hb0
        have hdbl := env_le hz h0 hb1
        have hdvl := env_le hz h0 hv1
        have hpb : ((dep K b : Nat) : Int) = (((env K b).length : Nat) : Int) := rfl
        have hpv : ((dep K v : Nat) : Int) = (((env K v).length : Nat) : Int) := rfl
        have hcl := cOut_len (f := K) (g := B) (σ := σ) (n := n) (k := i) (b := b) (v := v) y4 x5
        have hcu := uCnt_le K B b (b + 1 + σ (b + 1)) (σ (b + 1 + σ (b + 1)))
        have hmb := mulb (a := (uCnt K B b (b + 1 + σ (b + 1)) (σ (b + 1 + σ (b + 1))))) (b := σ v) (by omega) y4 (by omega)
        have hcl2 : ((cOut K B σ n i b v).length) = i + (bL K B b v (σ v) (b + 1 + σ (b + 1)) (σ (b + 1 + σ (b + 1)))).length + (n - (i + σ i)) := by unfold cOut; rw [List.length_append, List.length_append, seg_len, seg_len]
        refine g_istore (pc := 104) hX d_MD_contract_104 (by decide) ?_
        refine g_aload_n (pc := 106) hX 0 d_MD_contract_106 rfl rfl ?_
        refine g_get (pc := 107) hX f_MD_53 0 rfl rfl d_MD_contract_107 ?_
        refine g_aload_n (pc := 110) hX 0 d_MD_contract_110 rfl rfl ?_
        refine g_get (pc := 111) hX f_MD_44 0 rfl rfl d_MD_contract_111 ?_
        refine g_iload_n (pc := 114) hX 1 d_MD_contract_114 rfl rfl ?_
        refine g_iadN (pc := 115) hX 6 (k := i) rfl (by omega) d_MD_contract_115 ?_
        rw [hsi]
        refine g_isub (pc := 116) hX d_MD_contract_116 ?_
        refine g_aload_n (pc := 117) hX 0 d_MD_contract_117 rfl rfl ?_
        refine g_get (pc := 118) hX f_MD_44 0 rfl rfl d_MD_contract_118 ?_
        refine g_iload (pc := 121) hX d_MD_contract_121 rfl ?_
        refine g_iadN (pc := 123) hX 6 (k := (b + 1 + σ (b + 1))) rfl (by omega) d_MD_contract_123 ?_
        rw [hsb]
        refine g_iadd (pc := 124) hX d_MD_contract_124 ?_
        refine g_iload (pc := 125) hX d_MD_contract_125 rfl ?_
        refine g_aload_n (pc := 127) hX 0 d_MD_contract_127 rfl rfl ?_
        refine g_get (pc := 128) hX f_MD_44 0 rfl rfl d_MD_contract_128 ?_
        refine g_iload (pc := 131) hX d_MD_contract_131 rfl ?_
        refine g_iadN (pc := 133) hX 6 (k := v) rfl (by omega) d_MD_contract_133 ?_
        rw [hsv]
        refine g_iconst (pc := 134) hX d_MD_contract_134 ?_
        refine g_isub (pc := 135) hX d_MD_contract_135 ?_
        refine g_imul (pc := 136) hX d_MD_contract_136 ?_
        refine g_iadd (pc := 137) hX d_MD_contract_137 ?_
        rw [← hcl]
        refine g_sipush (pc := 138) hX 3000 d_MD_contract_138 (by decide) ?_
        refine g_icmp_le (pc := 141) (tgt := 147) hX d_MD_contract_141 (by decide) (by omega) (by omega) (fun c_5 => ?_) (fun c_5 => ?_)
        · have hle : ((cOut K B σ n i b v).length) ≤ 3000 := by omega
          refine g_aload_n (pc := 147) hX 0 d_MD_contract_147 rfl rfl ?_
          refine g_iconst (pc := 148) hX d_MD_contract_148 ?_
          refine g_put (pc := 149) hX f_MD_124 gt_MD 0 rfl rfl rfl rfl (Nat.le_of_ble_eq_true rfl) d_MD_contract_149 ?_
          refine g_ws (mdO m A gn ln n kn sn 0 mt mg ++ mI E A 1 LK ++ mI E A 3 K ++ mL E A 4 B ++ mI E A 9 DK ++ mL E A 10 DB ++ mI E A 11 SZ_4 ++ mI E A 12 WH_4) rfl ?_
          refine g_iconst (pc := 152) hX d_MD_contract_152 ?_
          refine g_istore (pc := 153) hX d_MD_contract_153 (by decide) ?_
          have loop1 : ∀ (d1 : Nat) (j : Nat) (D Q : Nat → Int) (q : Nat), i < j + d1 → j ≤ i → Lr q D Q = seg K B 0 j → gW X (mdO m A gn ln n kn sn q mt mg ++ mI E A 1 LK ++ mI E A 3 K ++ mL E A 4 B ++ mI E A 9 D ++ mL E A 10 Q ++ mI E A 11 SZ_4 ++ mI E A 12 WH_4) 0 0 155 [(0, .ref m), (1, .int (iI (i : Int))), (4, .int (iI ((b + 1 + σ (b + 1)) : Int))), (5, .int (iI (v : Int))), (7, .int (iI (j : Int)))] [] := by
            intro d1
            induction d1 with
            | zero => intro j D Q q hfu1 hj1 hL1; omega
            | succ d1 ih1 =>
              intro j D Q q hfu1 hj1 hL1
              have hq1 := congrArg List.length hL1
              rw [Lr_len, seg_len] at hq1
              refine g_iload (pc := 155) hX d_MD_contract_155 rfl ?_
              refine g_iload_n (pc := 157) hX 1 d_MD_contract_157 rfl rfl ?_
              refine g_icmp_ge (pc := 158) (tgt := 185) hX d_MD_contract_158 (by decide) (by omega) (by omega) (fun c_6 => ?_) (fun c_6 => ?_)
              · refine g_iload (pc := 185) hX d_MD_contract_185 rfl ?_
                refine g_istore (pc := 187) hX d_MD_contract_187 (by decide) ?_
                have loop2 : ∀ (d2 : Nat) (e : Nat) (D Q : Nat → Int) (q : Nat), σ (b + 1 + σ (b + 1)) < e + d2 → e ≤ σ (b + 1 + σ (b + 1)) → Lr q D Q = seg K B 0 i ++ bL K B b v (σ v) (b + 1 + σ (b + 1)) e → gW X (mdO m A gn ln n kn sn q mt mg ++ mI E A 1 LK ++ mI E A 3 K ++ mL E A 4 B ++ mI E A 9 D ++ mL E A 10 Q ++ mI E A 11 SZ_4 ++ mI E A 12 WH_4) 0 0 189 [(0, .ref m), (1, .int (iI (i : Int))), (4, .int (iI ((b + 1 + σ (b + 1)) : Int))), (5, .int (iI (v : Int))), (7, .int (iI (((b + 1 + σ (b + 1)) + e : Nat) : Int)))] [] := by
                  intro d2
                  induction d2 with
                  | zero => intro e D Q q hfu2 he2 hL2; omega
                  | succ d2 ih2 =>
                    intro e D Q q hfu2 he2 hL2
                    have hq2 := congrArg List.length hL2
                    rw [Lr_len, List.length_append, seg_len] at hq2
                    have hml : e < σ (b + 1 + σ (b + 1)) → (bL K B b v (σ v) (b + 1 + σ (b + 1)) e).length + (nL K B b v (σ v) ((b + 1 + σ (b + 1)) + e)).length ≤ (bL K B b v (σ v) (b + 1 + σ (b + 1)) (σ (b + 1 + σ (b + 1)))).length := fun h => bL_ml K B b v (σ v) (b + 1 + σ (b + 1)) h
                    refine g_iload (pc := 189) hX d_MD_contract_189 rfl ?_
                    refine g_iload (pc := 191) hX d_MD_contract_191 rfl ?_
                    refine g_aload_n (pc := 193) hX 0 d_MD_contract_193 rfl rfl ?_
                    refine g_get (pc := 194) hX f_MD_44 0 rfl rfl d_MD_contract_194 ?_
                    refine g_iload (pc := 197) hX d_MD_contract_197 rfl ?_
                    refine g_iadN (pc := 199) hX 6 (k := (b + 1 + σ (b + 1))) rfl (by omega) d_MD_contract_199 ?_
                    rw [hsb]
                    refine g_iadd (pc := 200) hX d_MD_contract_200 ?_
                    refine g_icmp_ge (pc := 201) (tgt := 409) hX d_MD_contract_201 (by decide) (by omega) (by omega) (fun c_7 => ?_) (fun c_7 => ?_)
                    · refine g_iload_n (pc := 409) hX 1 d_MD_contract_409 rfl rfl ?_
                      refine g_aload_n (pc := 410) hX 0 d_MD_contract_410 rfl rfl ?_
                      refine g_get (pc := 411) hX f_MD_44 0 rfl rfl d_MD_contract_411 ?_
                      refine g_iload_n (pc := 414) hX 1 d_MD_contract_414 rfl rfl ?_
                      refine g_iadN (pc := 415) hX 6 (k := i) rfl (by omega) d_MD_contract_415 ?_
                      rw [hsi]
                      refine g_iadd (pc := 416) hX d_MD_contract_416 ?_
                      refine g_istore (pc := 417) hX d_MD_contract_417 (by decide) ?_
                      have loop4 : ∀ (d4 : Nat) (e : Nat) (D Q : Nat → Int) (q : Nat), n < i + σ i + e + d4 → i + σ i + e ≤ n → Lr q D Q = seg K B 0 i ++ bL K B b v (σ v) (b + 1 + σ (b + 1)) (σ (b + 1 + σ (b + 1))) ++ seg K B (i + σ i) e → gW X (mdO m A gn ln n kn sn q mt mg ++ mI E A 1 LK ++ mI E A 3 K ++ mL E A 4 B ++ mI E A 9 D ++ mL E A 10 Q ++ mI E A 11 SZ_4 ++ mI E A 12 WH_4) 0 0 419 [(0, .ref m), (7, .int (iI ((i + σ i + e : Nat) : Int)))] [] := by
                        intro d4
                        induction d4 with
                        | zero => intro e D Q q hfu4 he4 hL4; omega
                        | succ d4 ih4 =>
                          intro e D Q q hfu4 he4 hL4
                          have hq4 := congrArg List.length hL4
                          rw [Lr_len, List.length_append, List.length_append, seg_len, seg_len] at hq4
                          refine g_iload (pc := 419) hX d_MD_contract_419 rfl ?_
                          refine g_aload_n (pc := 421) hX 0 d_MD_contract_421 rfl rfl ?_
                          refine g_get (pc := 422) hX f_MD_53 0 rfl rfl d_MD_contract_422 ?_
                          refine g_icmp_ge (pc := 425) (tgt := 452) hX d_MD_contract_425 (by decide) (by omega) (by omega) (fun c_8 => ?_) (fun c_8 => ?_)
                          · have hqe : q = ((cOut K B σ n i b v).length) := by omega
                            have hfin : Lr ((cOut K B σ n i b v).length) D Q = (cOut K B σ n i b v) := by rw [← hqe, hL4, show e = n - (i + σ i) by omega]; rfl
                            obtain ⟨τ, hτ⟩ := hOut i b v D Q hcbv hle hfin
                            rw [hqe]
                            refine g_aload_n (pc := 452) hX 0 d_MD_contract_452 rfl rfl ?_
                            refine g_callV (pc := 453) hX (c_MD_become l E m A gn ln n kn sn ((cOut K B σ n i b v).length) mt mg LK K B D Q SZ_4 WH_4 τ hτ) gy_MD_become gv_MD_become w_587 rfl (by decide) (by decide) [0, 1, 2, 3, 4, 5, 6, 7] rfl (by decide +kernel) rfl rfl rfl _ rfl (Nat.le_of_ble_eq_true rfl) d_MD_contract_453 (by decide) (by decide) (fun _ _ _ _ h => by obtain ⟨_, _, _, _, _, h2, _⟩ := h; rw [h2]; exact Nat.le_of_ble_eq_true rfl) (fun v w dc_9 ds_9 hp => ?_)
                            obtain ⟨K_9, B_9, SZ_9, WH_9, rfl, rfl, f_9, rfl, rfl⟩ := hp
                            refine g_wsP (mdO m A gn ln ((cOut K B σ n i b v).length) kn sn ((cOut K B σ n i b v).length) mt mg ++ mI E A 1 LK ++ mI E A 3 K_9 ++ mL E A 4 B_9 ++ mI E A 9 D ++ mL E A 10 Q ++ mI E A 11 SZ_9 ++ mI E A 12 WH_9) rfl rfl ?_
                            refine g_aload_n (pc := 456) hX 0 d_MD_contract_456 rfl rfl ?_
                            refine g_get (pc := 457) hX f_MD_53 0 rfl rfl d_MD_contract_457 ?_
                            exact g_iret (pc := 460) hX hE d_MD_contract_460 (by decide) (by decide) (Or.inr (Or.inr ⟨i, b, v, K_9, B_9, D, Q, SZ_9, WH_9, rfl, hcbv, hle, rfl, rfl, (Lr_congr (fun j hj => f_9.1 j hj)).trans hfin, rfl, rfl⟩))
                          · have hBj := hB (i + σ i + e) (by omega)
                            have hKj := hkd (i + σ i + e) (by omega)
                            refine g_aload_n (pc := 428) hX 0 d_MD_contract_428 rfl rfl ?_
                            refine g_aload_n (pc := 429) hX 0 d_MD_contract_429 rfl rfl ?_
                            refine g_get (pc := 430) hX f_MD_20 0 rfl rfl d_MD_contract_430 ?_
                            refine g_iload (pc := 433) hX d_MD_contract_433 rfl ?_
                            refine g_iadN (pc := 435) hX 2 (k := (i + σ i + e)) rfl (by omega) d_MD_contract_435 ?_
                            refine g_aload_n (pc := 436) hX 0 d_MD_contract_436 rfl rfl ?_
                            refine g_get (pc := 437) hX f_MD_23 0 rfl rfl d_MD_contract_437 ?_
                            refine g_iload (pc := 440) hX d_MD_contract_440 rfl ?_
                            refine g_ladN (pc := 442) hX 3 (k := (i + σ i + e)) rfl (by omega) d_MD_contract_442 ?_
                            refine g_callV (pc := 443) hX (c_MD_draft l E m A gn ln n kn sn q mt mg D Q _ (by omega) _ (by omega) (by omega)) gy_MD_draft gv_MD_draft w_613 rfl (by decide) (by decide) [0, 4, 5] rfl (by decide +kernel) rfl rfl rfl _ rfl (Nat.le_of_ble_eq_true rfl) d_MD_contract_443 (by decide) (by decide) (fun _ _ _ _ h => by obtain ⟨_, h2, _⟩ := h; rw [h2]; exact Nat.le_of_ble_eq_true rfl) (fun v w dc_10 ds_10 hp => ?_)
                            obtain ⟨rfl, rfl, rfl, rfl⟩ := hp
                            refine g_wsP (mdO m A gn ln n kn sn (q + 1) mt mg ++ mI E A 1 LK ++ mI E A 3 K ++ mL E A 4 B ++ mI E A 9 (uZ D q (K (i + σ i + e))) ++ mL E A 10 (uZ Q q (B (i + σ i + e))) ++ mI E A 11 SZ_4 ++ mI E A 12 WH_4) rfl rfl ?_
                            refine g_iinc (pc := 446) hX d_MD_contract_446 (by decide) rfl ?_
                            refine g_goto (pc := 449) (tgt := 419) hX d_MD_contract_449 (by decide) ?_
                            refine g_lv [(0, .ref m), (7, .int (iI ((i + σ i + (e + 1) : Nat) : Int)))] ⟨rfl, rfl, trivial⟩ ?_
                            exact ih4 (e + 1) (uZ D q (K (i + σ i + e))) (uZ Q q (B (i + σ i + e))) (q + 1) (by omega) (by omega) (by rw [Lr_put, hL4, seg_succ]; simp only [List.append_assoc])
                      refine g_lv [(0, .ref m), (7, .int (iI ((i + σ i + 0 : Nat) : Int)))] ⟨rfl, rfl, trivial⟩ ?_
                      exact loop4 (n + 1) 0 D Q q (by omega) (by omega) (by rw [hL2, show e = σ (b + 1 + σ (b + 1)) by omega, seg_0, List.append_nil])
                      
                    · have hBj := hB ((b + 1 + σ (b + 1)) + e) (by omega)
                      have hKj := hkd ((b + 1 + σ (b + 1)) + e) (by omega)
                      have hdj := env_le hz h0 (show (b + 1 + σ (b + 1)) + e < n by omega)
                      have hmle := hml (by omega)
                      have hpj : ((dep K ((b + 1 + σ (b + 1)) + e) : Nat) : Int) = (((env K ((b + 1 + σ (b + 1)) + e)).length : Nat) : Int) := rfl
                      have hdd : (((env K ((b + 1 + σ (b + 1)) + e)).length : Nat) : Int) - (((env K (b + 1 + σ (b + 1))).length : Nat) : Int) = ((((env K ((b + 1 + σ (b + 1)) + e)).length : Nat) : Int) - ((((env K b).length : Nat) : Int) + 1)) := by omega
                      refine g_aload_n (pc := 204) hX 0 d_MD_contract_204 rfl rfl ?_
                      refine g_get (pc := 205) hX f_MD_20 0 rfl rfl d_MD_contract_205 ?_
                      refine g_iload (pc := 208) hX d_MD_contract_208 rfl ?_
                      refine g_iadN (pc := 210) hX 2 (k := ((b + 1 + σ (b + 1)) + e)) rfl (by omega) d_MD_contract_210 ?_
                      refine g_if_ne (pc := 211) (tgt := 225) hX d_MD_contract_211 (by decide) (by omega) (fun c_11 => ?_) (fun c_11 => ?_)
                      · refine g_iconst (pc := 225) hX d_MD_contract_225 ?_
                        refine g_istore (pc := 226) hX d_MD_contract_226 (by decide) ?_
                        refine g_aload_n (pc := 228) hX 0 d_MD_contract_228 rfl rfl ?_
                        refine g_get (pc := 229) hX f_MD_20 0 rfl rfl d_MD_contract_229 ?_
                        refine g_iload (pc := 232) hX d_MD_contract_232 rfl ?_
                        refine g_iadN (pc := 234) hX 2 (k := ((b + 1 + σ (b + 1)) + e)) rfl (by omega) d_MD_contract_234 ?_
                        refine g_if_ne (pc := 235) (tgt := 252) hX d_MD_contract_235 (by decide) (by omega) (fun c_12 => ?_) (fun c_12 => ?_)
                        · rw [nL_1 (by omega)] at hmle
                          have hq9 : q < 3000 := by have e8 : [(K ((b + 1 + σ (b + 1)) + e), B ((b + 1 + σ (b + 1)) + e))].length = 1 := rfl; omega
                          refine g_aload_n (pc := 252) hX 0 d_MD_contract_252 rfl rfl ?_
                          refine g_aload_n (pc := 253) hX 0 d_MD_contract_253 rfl rfl ?_
                          refine g_get (pc := 254) hX f_MD_20 0 rfl rfl d_MD_contract_254 ?_
                          refine g_iload (pc := 257) hX d_MD_contract_257 rfl ?_
                          refine g_iadN (pc := 259) hX 2 (k := ((b + 1 + σ (b + 1)) + e)) rfl (by omega) d_MD_contract_259 ?_
                          refine g_aload_n (pc := 260) hX 0 d_MD_contract_260 rfl rfl ?_
                          refine g_get (pc := 261) hX f_MD_23 0 rfl rfl d_MD_contract_261 ?_
                          refine g_iload (pc := 264) hX d_MD_contract_264 rfl ?_
                          refine g_ladN (pc := 266) hX 3 (k := ((b + 1 + σ (b + 1)) + e)) rfl (by omega) d_MD_contract_266 ?_
                          refine g_callV (pc := 267) hX (c_MD_draft l E m A gn ln n kn sn q mt mg D Q _ (by omega) _ (by omega) (by omega)) gy_MD_draft gv_MD_draft w_613 rfl (by decide) (by decide) [0, 4, 5] rfl (by decide +kernel) rfl rfl rfl _ rfl (Nat.le_of_ble_eq_true rfl) d_MD_contract_267 (by decide) (by decide) (fun _ _ _ _ h => by obtain ⟨_, h2, _⟩ := h; rw [h2]; exact Nat.le_of_ble_eq_true rfl) (fun v w dc_13 ds_13 hp => ?_)
                          obtain ⟨rfl, rfl, rfl, rfl⟩ := hp
                          refine g_wsP (mdO m A gn ln n kn sn (q + 1) mt mg ++ mI E A 1 LK ++ mI E A 3 K ++ mL E A 4 B ++ mI E A 9 (uZ D q (K ((b + 1 + σ (b + 1)) + e))) ++ mL E A 10 (uZ Q q (B ((b + 1 + σ (b + 1)) + e))) ++ mI E A 11 SZ_4 ++ mI E A 12 WH_4) rfl rfl ?_
                          refine g_goto (pc := 270) (tgt := 403) hX d_MD_contract_270 (by decide) ?_
                          refine g_iinc (pc := 403) hX d_MD_contract_403 (by decide) rfl ?_
                          refine g_goto (pc := 406) (tgt := 189) hX d_MD_contract_406 (by decide) ?_
                          refine g_lv [(0, .ref m), (1, .int (iI (i : Int))), (4, .int (iI ((b + 1 + σ (b + 1)) : Int))), (5, .int (iI (v : Int))), (7, .int (iI (((b + 1 + σ (b + 1)) + (e + 1) : Nat) : Int)))] ⟨rfl, rfl, rfl, rfl, rfl, trivial⟩ ?_
                          exact ih2 (e + 1) (uZ D q (K ((b + 1 + σ (b + 1)) + e))) (uZ Q q (B ((b + 1 + σ (b + 1)) + e))) (q + 1) (by omega) (by omega) (by rw [Lr_put, hL2, bL_succ, nL_1 (by omega), List.append_assoc])
                        · exfalso; omega
                      · refine g_aload_n (pc := 214) hX 0 d_MD_contract_214 rfl rfl ?_
                        refine g_iload (pc := 215) hX d_MD_contract_215 rfl ?_
                        refine g_iload (pc := 217) hX d_MD_contract_217 rfl ?_
                        refine g_iV (pc := 219) hX (c_MD_under l E m A gn ln n kn sn q mt mg K SZ_4 WH_4 ((b + 1 + σ (b + 1)) + e) (b + 1 + σ (b + 1)) σ hO hm2 (by omega)) gy_MD_under gv_MD_under w_604 rfl (by decide) (by decide) [0, 2, 6, 7] rfl (by decide +kernel) rfl rfl rfl _ rfl (Nat.le_of_ble_eq_true rfl) d_MD_contract_219 (by decide) (by decide) ?_
                        rw [hdd]
                        refine g_goto (pc := 222) (tgt := 226) hX d_MD_contract_222 (by decide) ?_
                        refine g_istore (pc := 226) hX d_MD_contract_226 (by decide) ?_
                        refine g_aload_n (pc := 228) hX 0 d_MD_contract_228 rfl rfl ?_
                        refine g_get (pc := 229) hX f_MD_20 0 rfl rfl d_MD_contract_229 ?_
                        refine g_iload (pc := 232) hX d_MD_contract_232 rfl ?_
                        refine g_iadN (pc := 234) hX 2 (k := ((b + 1 + σ (b + 1)) + e)) rfl (by omega) d_MD_contract_234 ?_
                        refine g_if_ne (pc := 235) (tgt := 252) hX d_MD_contract_235 (by decide) (by omega) (fun c_14 => ?_) (fun c_14 => ?_)
                        · exfalso; omega
                        · refine g_aload_n (pc := 238) hX 0 d_MD_contract_238 rfl rfl ?_
                          refine g_get (pc := 239) hX f_MD_23 0 rfl rfl d_MD_contract_239 ?_
                          refine g_iload (pc := 242) hX d_MD_contract_242 rfl ?_
                          refine g_ladN (pc := 244) hX 3 (k := ((b + 1 + σ (b + 1)) + e)) rfl (by omega) d_MD_contract_244 ?_
                          refine g_iload (pc := 245) hX d_MD_contract_245 rfl ?_
                          refine g_i2l (pc := 247) hX d_MD_contract_247 (by omega) ?_
                          refine g_lcmp_ge (pc := 248) (tgt := 273) hX d_MD_contract_248 d_MD_contract_249 (by decide) (by omega) (by omega) (fun c_15 => ?_) (fun c_15 => ?_)
                          · refine g_aload_n (pc := 273) hX 0 d_MD_contract_273 rfl rfl ?_
                            refine g_get (pc := 274) hX f_MD_23 0 rfl rfl d_MD_contract_274 ?_
                            refine g_iload (pc := 277) hX d_MD_contract_277 rfl ?_
                            refine g_ladN (pc := 279) hX 3 (k := ((b + 1 + σ (b + 1)) + e)) rfl (by omega) d_MD_contract_279 ?_
                            refine g_iload (pc := 280) hX d_MD_contract_280 rfl ?_
                            refine g_i2l (pc := 282) hX d_MD_contract_282 (by omega) ?_
                            refine g_lcmp_le (pc := 283) (tgt := 304) hX d_MD_contract_283 d_MD_contract_284 (by decide) (by omega) (by omega) (fun c_16 => ?_) (fun c_16 => ?_)
                            · rw [nL_2 (by omega) (by omega), vL_len] at hmle
                              refine g_iload (pc := 304) hX d_MD_contract_304 rfl ?_
                              refine g_istore (pc := 306) hX d_MD_contract_306 (by decide) ?_
                              have loop3 : ∀ (d3 : Nat) (e2 : Nat) (D Q : Nat → Int) (q : Nat), σ v < e2 + d3 → e2 ≤ σ v → Lr q D Q = seg K B 0 i ++ (bL K B b v (σ v) (b + 1 + σ (b + 1)) e ++ vL K B v e2 ((((env K ((b + 1 + σ (b + 1)) + e)).length : Nat) : Int) - ((((env K b).length : Nat) : Int) + 1))) → gW X (mdO m A gn ln n kn sn q mt mg ++ mI E A 1 LK ++ mI E A 3 K ++ mL E A 4 B ++ mI E A 9 D ++ mL E A 10 Q ++ mI E A 11 SZ_4 ++ mI E A 12 WH_4) 0 0 308 [(0, .ref m), (1, .int (iI (i : Int))), (4, .int (iI ((b + 1 + σ (b + 1)) : Int))), (5, .int (iI (v : Int))), (7, .int (iI (((b + 1 + σ (b + 1)) + e : Nat) : Int))), (8, .int (iI ((((env K ((b + 1 + σ (b + 1)) + e)).length : Nat) : Int) - ((((env K b).length : Nat) : Int) + 1)))), (9, .int (iI ((v + e2 : Nat) : Int)))] [] := by
                                intro d3
                                induction d3 with
                                | zero => intro e2 D Q q hfu3 he3 hL3; omega
                                | succ d3 ih3 =>
                                  intro e2 D Q q hfu3 he3 hL3
                                  have hq3 := congrArg List.length hL3
                                  rw [Lr_len, List.length_append, List.length_append, seg_len, vL_len] at hq3
                                  refine g_iload (pc := 308) hX d_MD_contract_308 rfl ?_
                                  refine g_iload (pc := 310) hX d_MD_contract_310 rfl ?_
                                  refine g_aload_n (pc := 312) hX 0 d_MD_contract_312 rfl rfl ?_
                                  refine g_get (pc := 313) hX f_MD_44 0 rfl rfl d_MD_contract_313 ?_
                                  refine g_iload (pc := 316) hX d_MD_contract_316 rfl ?_
                                  refine g_iadN (pc := 318) hX 6 (k := v) rfl (by omega) d_MD_contract_318 ?_
                                  rw [hsv]
                                  refine g_iadd (pc := 319) hX d_MD_contract_319 ?_
                                  refine g_icmp_ge (pc := 320) (tgt := 403) hX d_MD_contract_320 (by decide) (by omega) (by omega) (fun c_17 => ?_) (fun c_17 => ?_)
                                  · refine g_iinc (pc := 403) hX d_MD_contract_403 (by decide) rfl ?_
                                    refine g_goto (pc := 406) (tgt := 189) hX d_MD_contract_406 (by decide) ?_
                                    refine g_lv [(0, .ref m), (1, .int (iI (i : Int))), (4, .int (iI ((b + 1 + σ (b + 1)) : Int))), (5, .int (iI (v : Int))), (7, .int (iI (((b + 1 + σ (b + 1)) + (e + 1) : Nat) : Int)))] ⟨rfl, rfl, rfl, rfl, rfl, trivial⟩ ?_
                                    exact ih2 (e + 1) D Q q (by omega) (by omega) (by rw [hL3, bL_succ, nL_2 (by omega) (by omega), show e2 = σ v by omega])
                                  · have hBj2 := hB (v + e2) (by omega)
                                    have hKj2 := hkd (v + e2) (by omega)
                                    have hdj2 := env_le hz h0 (show v + e2 < n by omega)
                                    have hpj2 : ((dep K (v + e2) : Nat) : Int) = (((env K (v + e2)).length : Nat) : Int) := rfl
                                    refine g_aload_n (pc := 323) hX 0 d_MD_contract_323 rfl rfl ?_
                                    refine g_get (pc := 324) hX f_MD_20 0 rfl rfl d_MD_contract_324 ?_
                                    refine g_iload (pc := 327) hX d_MD_contract_327 rfl ?_
                                    refine g_iadN (pc := 329) hX 2 (k := (v + e2)) rfl (by omega) d_MD_contract_329 ?_
                                    refine g_if_ne (pc := 330) (tgt := 357) hX d_MD_contract_330 (by decide) (by omega) (fun c_18 => ?_) (fun c_18 => ?_)
                                    · refine g_iconst (pc := 357) hX d_MD_contract_357 ?_
                                      refine g_istore (pc := 358) hX d_MD_contract_358 (by decide) ?_
                                      refine g_aload_n (pc := 360) hX 0 d_MD_contract_360 rfl rfl ?_
                                      refine g_aload_n (pc := 361) hX 0 d_MD_contract_361 rfl rfl ?_
                                      refine g_get (pc := 362) hX f_MD_20 0 rfl rfl d_MD_contract_362 ?_
                                      refine g_iload (pc := 365) hX d_MD_contract_365 rfl ?_
                                      refine g_iadN (pc := 367) hX 2 (k := (v + e2)) rfl (by omega) d_MD_contract_367 ?_
                                      refine g_iload (pc := 368) hX d_MD_contract_368 rfl ?_
                                      refine g_if_eq (pc := 370) (tgt := 387) hX d_MD_contract_370 (by decide) (by decide) (fun c_19 => ?_) (fun c_19 => ?_)
                                      · refine g_aload_n (pc := 387) hX 0 d_MD_contract_387 rfl rfl ?_
                                        refine g_get (pc := 388) hX f_MD_23 0 rfl rfl d_MD_contract_388 ?_
                                        refine g_iload (pc := 391) hX d_MD_contract_391 rfl ?_
                                        refine g_ladN (pc := 393) hX 3 (k := (v + e2)) rfl (by omega) d_MD_contract_393 ?_
                                        refine g_callV (pc := 394) hX (c_MD_draft l E m A gn ln n kn sn q mt mg D Q _ (by omega) _ (by omega) (by omega)) gy_MD_draft gv_MD_draft w_613 rfl (by decide) (by decide) [0, 4, 5] rfl (by decide +kernel) rfl rfl rfl _ rfl (Nat.le_of_ble_eq_true rfl) d_MD_contract_394 (by decide) (by decide) (fun _ _ _ _ h => by obtain ⟨_, h2, _⟩ := h; rw [h2]; exact Nat.le_of_ble_eq_true rfl) (fun v w dc_20 ds_20 hp => ?_)
                                        obtain ⟨rfl, rfl, rfl, rfl⟩ := hp
                                        refine g_wsP (mdO m A gn ln n kn sn (q + 1) mt mg ++ mI E A 1 LK ++ mI E A 3 K ++ mL E A 4 B ++ mI E A 9 (uZ D q (K (v + e2))) ++ mL E A 10 (uZ Q q (B (v + e2))) ++ mI E A 11 SZ_4 ++ mI E A 12 WH_4) rfl rfl ?_
                                        refine g_iinc (pc := 397) hX d_MD_contract_397 (by decide) rfl ?_
                                        refine g_goto (pc := 400) (tgt := 308) hX d_MD_contract_400 (by decide) ?_
                                        refine g_lv [(0, .ref m), (1, .int (iI (i : Int))), (4, .int (iI ((b + 1 + σ (b + 1)) : Int))), (5, .int (iI (v : Int))), (7, .int (iI (((b + 1 + σ (b + 1)) + e : Nat) : Int))), (8, .int (iI ((((env K ((b + 1 + σ (b + 1)) + e)).length : Nat) : Int) - ((((env K b).length : Nat) : Int) + 1)))), (9, .int (iI ((v + (e2 + 1) : Nat) : Int)))] ⟨rfl, rfl, rfl, rfl, rfl, rfl, rfl, trivial⟩ ?_
                                        exact ih3 (e2 + 1) (uZ D q (K (v + e2))) (uZ Q q (B (v + e2))) (q + 1) (by omega) (by omega) (by rw [Lr_put, hL3, vL_succ, vN_f (fun h => by have h8 := h.1; have h9 := h.2; omega)]; simp only [List.append_assoc])
                                      · exact absurd (by decide) c_19
                                    · refine g_aload_n (pc := 333) hX 0 d_MD_contract_333 rfl rfl ?_
                                      refine g_get (pc := 334) hX f_MD_23 0 rfl rfl d_MD_contract_334 ?_
                                      refine g_iload (pc := 337) hX d_MD_contract_337 rfl ?_
                                      refine g_ladN (pc := 339) hX 3 (k := (v + e2)) rfl (by omega) d_MD_contract_339 ?_
                                      refine g_aload_n (pc := 340) hX 0 d_MD_contract_340 rfl rfl ?_
                                      refine g_iload (pc := 341) hX d_MD_contract_341 rfl ?_
                                      refine g_iload (pc := 343) hX d_MD_contract_343 rfl ?_
                                      refine g_iV (pc := 345) hX (c_MD_under l E m A gn ln n kn sn q mt mg K SZ_4 WH_4 (v + e2) v σ hO hm2 (by omega)) gy_MD_under gv_MD_under w_604 rfl (by decide) (by decide) [0, 2, 6, 7] rfl (by decide +kernel) rfl rfl rfl _ rfl (Nat.le_of_ble_eq_true rfl) d_MD_contract_345 (by decide) (by decide) ?_
                                      refine g_i2l (pc := 348) hX d_MD_contract_348 (by omega) ?_
                                      refine g_lcmp_lt (pc := 349) (tgt := 357) hX d_MD_contract_349 d_MD_contract_350 (by decide) (by omega) (by omega) (fun c_21 => ?_) (fun c_21 => ?_)
                                      · refine g_iconst (pc := 357) hX d_MD_contract_357 ?_
                                        refine g_istore (pc := 358) hX d_MD_contract_358 (by decide) ?_
                                        refine g_aload_n (pc := 360) hX 0 d_MD_contract_360 rfl rfl ?_
                                        refine g_aload_n (pc := 361) hX 0 d_MD_contract_361 rfl rfl ?_
                                        refine g_get (pc := 362) hX f_MD_20 0 rfl rfl d_MD_contract_362 ?_
                                        refine g_iload (pc := 365) hX d_MD_contract_365 rfl ?_
                                        refine g_iadN (pc := 367) hX 2 (k := (v + e2)) rfl (by omega) d_MD_contract_367 ?_
                                        refine g_iload (pc := 368) hX d_MD_contract_368 rfl ?_
                                        refine g_if_eq (pc := 370) (tgt := 387) hX d_MD_contract_370 (by decide) (by decide) (fun c_22 => ?_) (fun c_22 => ?_)
                                        · refine g_aload_n (pc := 387) hX 0 d_MD_contract_387 rfl rfl ?_
                                          refine g_get (pc := 388) hX f_MD_23 0 rfl rfl d_MD_contract_388 ?_
                                          refine g_iload (pc := 391) hX d_MD_contract_391 rfl ?_
                                          refine g_ladN (pc := 393) hX 3 (k := (v + e2)) rfl (by omega) d_MD_contract_393 ?_
                                          refine g_callV (pc := 394) hX (c_MD_draft l E m A gn ln n kn sn q mt mg D Q _ (by omega) _ (by omega) (by omega)) gy_MD_draft gv_MD_draft w_613 rfl (by decide) (by decide) [0, 4, 5] rfl (by decide +kernel) rfl rfl rfl _ rfl (Nat.le_of_ble_eq_true rfl) d_MD_contract_394 (by decide) (by decide) (fun _ _ _ _ h => by obtain ⟨_, h2, _⟩ := h; rw [h2]; exact Nat.le_of_ble_eq_true rfl) (fun v w dc_23 ds_23 hp => ?_)
                                          obtain ⟨rfl, rfl, rfl, rfl⟩ := hp
                                          refine g_wsP (mdO m A gn ln n kn sn (q + 1) mt mg ++ mI E A 1 LK ++ mI E A 3 K ++ mL E A 4 B ++ mI E A 9 (uZ D q (K (v + e2))) ++ mL E A 10 (uZ Q q (B (v + e2))) ++ mI E A 11 SZ_4 ++ mI E A 12 WH_4) rfl rfl ?_
                                          refine g_iinc (pc := 397) hX d_MD_contract_397 (by decide) rfl ?_
                                          refine g_goto (pc := 400) (tgt := 308) hX d_MD_contract_400 (by decide) ?_
                                          refine g_lv [(0, .ref m), (1, .int (iI (i : Int))), (4, .int (iI ((b + 1 + σ (b + 1)) : Int))), (5, .int (iI (v : Int))), (7, .int (iI (((b + 1 + σ (b + 1)) + e : Nat) : Int))), (8, .int (iI ((((env K ((b + 1 + σ (b + 1)) + e)).length : Nat) : Int) - ((((env K b).length : Nat) : Int) + 1)))), (9, .int (iI ((v + (e2 + 1) : Nat) : Int)))] ⟨rfl, rfl, rfl, rfl, rfl, rfl, rfl, trivial⟩ ?_
                                          exact ih3 (e2 + 1) (uZ D q (K (v + e2))) (uZ Q q (B (v + e2))) (q + 1) (by omega) (by omega) (by rw [Lr_put, hL3, vL_succ, vN_f (fun h => by have h8 := h.1; have h9 := h.2; omega)]; simp only [List.append_assoc])
                                        · exact absurd (by decide) c_22
                                      · refine g_iconst (pc := 353) hX d_MD_contract_353 ?_
                                        refine g_goto (pc := 354) (tgt := 358) hX d_MD_contract_354 (by decide) ?_
                                        refine g_istore (pc := 358) hX d_MD_contract_358 (by decide) ?_
                                        refine g_aload_n (pc := 360) hX 0 d_MD_contract_360 rfl rfl ?_
                                        refine g_aload_n (pc := 361) hX 0 d_MD_contract_361 rfl rfl ?_
                                        refine g_get (pc := 362) hX f_MD_20 0 rfl rfl d_MD_contract_362 ?_
                                        refine g_iload (pc := 365) hX d_MD_contract_365 rfl ?_
                                        refine g_iadN (pc := 367) hX 2 (k := (v + e2)) rfl (by omega) d_MD_contract_367 ?_
                                        refine g_iload (pc := 368) hX d_MD_contract_368 rfl ?_
                                        refine g_if_eq (pc := 370) (tgt := 387) hX d_MD_contract_370 (by decide) (by decide) (fun c_24 => ?_) (fun c_24 => ?_)
                                        · exact absurd c_24 (by decide)
                                        · refine g_aload_n (pc := 373) hX 0 d_MD_contract_373 rfl rfl ?_
                                          refine g_get (pc := 374) hX f_MD_23 0 rfl rfl d_MD_contract_374 ?_
                                          refine g_iload (pc := 377) hX d_MD_contract_377 rfl ?_
                                          refine g_ladN (pc := 379) hX 3 (k := (v + e2)) rfl (by omega) d_MD_contract_379 ?_
                                          refine g_iload (pc := 380) hX d_MD_contract_380 rfl ?_
                                          refine g_i2l (pc := 382) hX d_MD_contract_382 (by omega) ?_
                                          refine g_ladd (pc := 383) hX d_MD_contract_383 ?_
                                          refine g_goto (pc := 384) (tgt := 394) hX d_MD_contract_384 (by decide) ?_
                                          refine g_callV (pc := 394) hX (c_MD_draft l E m A gn ln n kn sn q mt mg D Q _ (by omega) _ (by omega) (by omega)) gy_MD_draft gv_MD_draft w_613 rfl (by decide) (by decide) [0, 4, 5] rfl (by decide +kernel) rfl rfl rfl _ rfl (Nat.le_of_ble_eq_true rfl) d_MD_contract_394 (by decide) (by decide) (fun _ _ _ _ h => by obtain ⟨_, h2, _⟩ := h; rw [h2]; exact Nat.le_of_ble_eq_true rfl) (fun v w dc_25 ds_25 hp => ?_)
                                          obtain ⟨rfl, rfl, rfl, rfl⟩ := hp
                                          refine g_wsP (mdO m A gn ln n kn sn (q + 1) mt mg ++ mI E A 1 LK ++ mI E A 3 K ++ mL E A 4 B ++ mI E A 9 (uZ D q (K (v + e2))) ++ mL E A 10 (uZ Q q (B (v + e2) + ((((env K ((b + 1 + σ (b + 1)) + e)).length : Nat) : Int) - ((((env K b).length : Nat) : Int) + 1)))) ++ mI E A 11 SZ_4 ++ mI E A 12 WH_4) rfl rfl ?_
                                          refine g_iinc (pc := 397) hX d_MD_contract_397 (by decide) rfl ?_
                                          refine g_goto (pc := 400) (tgt := 308) hX d_MD_contract_400 (by decide) ?_
                                          refine g_lv [(0, .ref m), (1, .int (iI (i : Int))), (4, .int (iI ((b + 1 + σ (b + 1)) : Int))), (5, .int (iI (v : Int))), (7, .int (iI (((b + 1 + σ (b + 1)) + e : Nat) : Int))), (8, .int (iI ((((env K ((b + 1 + σ (b + 1)) + e)).length : Nat) : Int) - ((((env K b).length : Nat) : Int) + 1)))), (9, .int (iI ((v + (e2 + 1) : Nat) : Int)))] ⟨rfl, rfl, rfl, rfl, rfl, rfl, rfl, trivial⟩ ?_
                                          exact ih3 (e2 + 1) (uZ D q (K (v + e2))) (uZ Q q (B (v + e2) + ((((env K ((b + 1 + σ (b + 1)) + e)).length : Nat) : Int) - ((((env K b).length : Nat) : Int) + 1)))) (q + 1) (by omega) (by omega) (by rw [Lr_put, hL3, vL_succ, vN_t ⟨by omega, by omega⟩]; simp only [List.append_assoc])
                              refine g_lv [(0, .ref m), (1, .int (iI (i : Int))), (4, .int (iI ((b + 1 + σ (b + 1)) : Int))), (5, .int (iI (v : Int))), (7, .int (iI (((b + 1 + σ (b + 1)) + e : Nat) : Int))), (8, .int (iI ((((env K ((b + 1 + σ (b + 1)) + e)).length : Nat) : Int) - ((((env K b).length : Nat) : Int) + 1)))), (9, .int (iI ((v + 0 : Nat) : Int)))] ⟨rfl, rfl, rfl, rfl, rfl, rfl, rfl, trivial⟩ ?_
                              exact loop3 (σ v + 1) 0 D Q q (by omega) (by omega) (by rw [hL2]; simp [vL])
                              
                            · rw [nL_3 (by omega) (by omega)] at hmle
                              have hq9 : q < 3000 := by have e8 : [((0 : Int), B ((b + 1 + σ (b + 1)) + e) - 1)].length = 1 := rfl; omega
                              refine g_aload_n (pc := 287) hX 0 d_MD_contract_287 rfl rfl ?_
                              refine g_iconst (pc := 288) hX d_MD_contract_288 ?_
                              refine g_aload_n (pc := 289) hX 0 d_MD_contract_289 rfl rfl ?_
                              refine g_get (pc := 290) hX f_MD_23 0 rfl rfl d_MD_contract_290 ?_
                              refine g_iload (pc := 293) hX d_MD_contract_293 rfl ?_
                              refine g_ladN (pc := 295) hX 3 (k := ((b + 1 + σ (b + 1)) + e)) rfl (by omega) d_MD_contract_295 ?_
                              refine g_lconst (pc := 296) hX 1 d_MD_contract_296 (by decide) ?_
                              refine g_lsub (pc := 297) hX d_MD_contract_297 ?_
                              refine g_callV (pc := 298) hX (c_MD_draft l E m A gn ln n kn sn q mt mg D Q _ (by omega) _ (by omega) (by omega)) gy_MD_draft gv_MD_draft w_613 rfl (by decide) (by decide) [0, 4, 5] rfl (by decide +kernel) rfl rfl rfl _ rfl (Nat.le_of_ble_eq_true rfl) d_MD_contract_298 (by decide) (by decide) (fun _ _ _ _ h => by obtain ⟨_, h2, _⟩ := h; rw [h2]; exact Nat.le_of_ble_eq_true rfl) (fun v w dc_26 ds_26 hp => ?_)
                              obtain ⟨rfl, rfl, rfl, rfl⟩ := hp
                              refine g_wsP (mdO m A gn ln n kn sn (q + 1) mt mg ++ mI E A 1 LK ++ mI E A 3 K ++ mL E A 4 B ++ mI E A 9 (uZ D q 0) ++ mL E A 10 (uZ Q q (B ((b + 1 + σ (b + 1)) + e) - 1)) ++ mI E A 11 SZ_4 ++ mI E A 12 WH_4) rfl rfl ?_
                              refine g_goto (pc := 301) (tgt := 403) hX d_MD_contract_301 (by decide) ?_
                              refine g_iinc (pc := 403) hX d_MD_contract_403 (by decide) rfl ?_
                              refine g_goto (pc := 406) (tgt := 189) hX d_MD_contract_406 (by decide) ?_
                              refine g_lv [(0, .ref m), (1, .int (iI (i : Int))), (4, .int (iI ((b + 1 + σ (b + 1)) : Int))), (5, .int (iI (v : Int))), (7, .int (iI (((b + 1 + σ (b + 1)) + (e + 1) : Nat) : Int)))] ⟨rfl, rfl, rfl, rfl, rfl, trivial⟩ ?_
                              exact ih2 (e + 1) (uZ D q 0) (uZ Q q (B ((b + 1 + σ (b + 1)) + e) - 1)) (q + 1) (by omega) (by omega) (by rw [Lr_put, hL2, bL_succ, nL_3 (by omega) (by omega), List.append_assoc])
                          · rw [nL_1 (by omega)] at hmle
                            have hq9 : q < 3000 := by have e8 : [(K ((b + 1 + σ (b + 1)) + e), B ((b + 1 + σ (b + 1)) + e))].length = 1 := rfl; omega
                            refine g_aload_n (pc := 252) hX 0 d_MD_contract_252 rfl rfl ?_
                            refine g_aload_n (pc := 253) hX 0 d_MD_contract_253 rfl rfl ?_
                            refine g_get (pc := 254) hX f_MD_20 0 rfl rfl d_MD_contract_254 ?_
                            refine g_iload (pc := 257) hX d_MD_contract_257 rfl ?_
                            refine g_iadN (pc := 259) hX 2 (k := ((b + 1 + σ (b + 1)) + e)) rfl (by omega) d_MD_contract_259 ?_
                            refine g_aload_n (pc := 260) hX 0 d_MD_contract_260 rfl rfl ?_
                            refine g_get (pc := 261) hX f_MD_23 0 rfl rfl d_MD_contract_261 ?_
                            refine g_iload (pc := 264) hX d_MD_contract_264 rfl ?_
                            refine g_ladN (pc := 266) hX 3 (k := ((b + 1 + σ (b + 1)) + e)) rfl (by omega) d_MD_contract_266 ?_
                            refine g_callV (pc := 267) hX (c_MD_draft l E m A gn ln n kn sn q mt mg D Q _ (by omega) _ (by omega) (by omega)) gy_MD_draft gv_MD_draft w_613 rfl (by decide) (by decide) [0, 4, 5] rfl (by decide +kernel) rfl rfl rfl _ rfl (Nat.le_of_ble_eq_true rfl) d_MD_contract_267 (by decide) (by decide) (fun _ _ _ _ h => by obtain ⟨_, h2, _⟩ := h; rw [h2]; exact Nat.le_of_ble_eq_true rfl) (fun v w dc_27 ds_27 hp => ?_)
                            obtain ⟨rfl, rfl, rfl, rfl⟩ := hp
                            refine g_wsP (mdO m A gn ln n kn sn (q + 1) mt mg ++ mI E A 1 LK ++ mI E A 3 K ++ mL E A 4 B ++ mI E A 9 (uZ D q (K ((b + 1 + σ (b + 1)) + e))) ++ mL E A 10 (uZ Q q (B ((b + 1 + σ (b + 1)) + e))) ++ mI E A 11 SZ_4 ++ mI E A 12 WH_4) rfl rfl ?_
                            refine g_goto (pc := 270) (tgt := 403) hX d_MD_contract_270 (by decide) ?_
                            refine g_iinc (pc := 403) hX d_MD_contract_403 (by decide) rfl ?_
                            refine g_goto (pc := 406) (tgt := 189) hX d_MD_contract_406 (by decide) ?_
                            refine g_lv [(0, .ref m), (1, .int (iI (i : Int))), (4, .int (iI ((b + 1 + σ (b + 1)) : Int))), (5, .int (iI (v : Int))), (7, .int (iI (((b + 1 + σ (b + 1)) + (e + 1) : Nat) : Int)))] ⟨rfl, rfl, rfl, rfl, rfl, trivial⟩ ?_
                            exact ih2 (e + 1) (uZ D q (K ((b + 1 + σ (b + 1)) + e))) (uZ Q q (B ((b + 1 + σ (b + 1)) + e))) (q + 1) (by omega) (by omega) (by rw [Lr_put, hL2, bL_succ, nL_1 (by omega), List.append_assoc])
                refine g_lv [(0, .ref m), (1, .int (iI (i : Int))), (4, .int (iI ((b + 1 + σ (b + 1)) : Int))), (5, .int (iI (v : Int))), (7, .int (iI (((b + 1 + σ (b + 1)) + 0 : Nat) : Int)))] ⟨rfl, rfl, rfl, rfl, rfl, trivial⟩ ?_
                exact loop2 (σ (b + 1 + σ (b + 1)) + 1) 0 D Q q (by omega) (by omega) (by rw [hL1, show j = i by omega]; simp [bL])
                
              · have hBj := hB j (by omega)
                have hKj := hkd j (by omega)
                refine g_aload_n (pc := 161) hX 0 d_MD_contract_161 rfl rfl ?_
                refine g_aload_n (pc := 162) hX 0 d_MD_contract_162 rfl rfl ?_
                refine g_get (pc := 163) hX f_MD_20 0 rfl rfl d_MD_contract_163 ?_
                refine g_iload (pc := 166) hX d_MD_contract_166 rfl ?_
                refine g_iadN (pc := 168) hX 2 (k := j) rfl (by omega) d_MD_contract_168 ?_
                refine g_aload_n (pc := 169) hX 0 d_MD_contract_169 rfl rfl ?_
                refine g_get (pc := 170) hX f_MD_23 0 rfl rfl d_MD_contract_170 ?_
                refine g_iload (pc := 173) hX d_MD_contract_173 rfl ?_
                refine g_ladN (pc := 175) hX 3 (k := j) rfl (by omega) d_MD_contract_175 ?_
                refine g_callV (pc := 176) hX (c_MD_draft l E m A gn ln n kn sn q mt mg D Q _ (by omega) _ (by omega) (by omega)) gy_MD_draft gv_MD_draft w_613 rfl (by decide) (by decide) [0, 4, 5] rfl (by decide +kernel) rfl rfl rfl _ rfl (Nat.le_of_ble_eq_true rfl) d_MD_contract_176 (by decide) (by decide) (fun _ _ _ _ h => by obtain ⟨_, h2, _⟩ := h; rw [h2]; exact Nat.le_of_ble_eq_true rfl) (fun v w dc_28 ds_28 hp => ?_)
                obtain ⟨rfl, rfl, rfl, rfl⟩ := hp
                refine g_wsP (mdO m A gn ln n kn sn (q + 1) mt mg ++ mI E A 1 LK ++ mI E A 3 K ++ mL E A 4 B ++ mI E A 9 (uZ D q (K j)) ++ mL E A 10 (uZ Q q (B j)) ++ mI E A 11 SZ_4 ++ mI E A 12 WH_4) rfl rfl ?_
                refine g_iinc (pc := 179) hX d_MD_contract_179 (by decide) rfl ?_
                refine g_goto (pc := 182) (tgt := 155) hX d_MD_contract_182 (by decide) ?_
                refine g_lv [(0, .ref m), (1, .int (iI (i : Int))), (4, .int (iI ((b + 1 + σ (b + 1)) : Int))), (5, .int (iI (v : Int))), (7, .int (iI ((j + 1 : Nat) : Int)))] ⟨rfl, rfl, rfl, rfl, rfl, trivial⟩ ?_
                exact ih1 (j + 1) (uZ D q (K j)) (uZ Q q (B j)) (q + 1) (by omega) (by omega) (by rw [Lr_put, hL1, seg_succ, Nat.zero_add])
          refine g_lv [(0, .ref m), (1, .int (iI (i : Int))), (4, .int (iI ((b + 1 + σ (b + 1)) : Int))), (5, .int (iI (v : Int))), (7, .int (iI ((0 : Nat) : Int)))] ⟨rfl, rfl, rfl, rfl, rfl, trivial⟩ ?_
          exact loop1 (i + 1) 0 DK DB 0 (by omega) (by omega) rfl
          
        · refine g_bipush (pc := 144) hX (-2) d_MD_contract_144 (by decide) ?_
          exact g_iret (pc := 146) hX hE d_MD_contract_146 (by decide) (by decide) (Or.inr (Or.inl ⟨i, b, v, SZ_4, WH_4, rfl, hcbv, by omega, rfl, rfl, rfl, rfl⟩))
      refine g_aload_n (pc := 19) hX 0 d_MD_contract_19 rfl rfl ?_
      refine g_get (pc := 20) hX f_MD_20 0 rfl rfl d_MD_contract_20 ?_
      refine g_iload_n (pc := 23) hX 1 d_MD_contract_23 rfl rfl ?_
      refine g_iadN (pc := 24) hX 2 (k := i) rfl (by omega) d_MD_contract_24 ?_
      refine g_iconst (pc := 25) hX d_MD_contract_25 ?_
      refine g_icmp_ne (pc := 26) (tgt := 33) hX d_MD_contract_26 (by decide) (by omega) (by omega) (fun c_29 => ?_) (fun c_29 => ?_)
      · refine g_iconst (pc := 33) hX d_MD_contract_33 ?_
        refine g_istore_n (pc := 34) hX 2 d_MD_contract_34 rfl (by decide) ?_
        refine g_iload_n (pc := 35) hX 2 d_MD_contract_35 rfl rfl ?_
        refine g_if_ne (pc := 36) (tgt := 63) hX d_MD_contract_36 (by decide) (by decide) (fun c_30 => ?_) (fun c_30 => ?_)
        · exact absurd c_30 (by decide)
        · refine g_aload_n (pc := 39) hX 0 d_MD_contract_39 rfl rfl ?_
          refine g_get (pc := 40) hX f_MD_20 0 rfl rfl d_MD_contract_40 ?_
          refine g_iload_n (pc := 43) hX 1 d_MD_contract_43 rfl rfl ?_
          refine g_iadN (pc := 44) hX 2 (k := i) rfl (by omega) d_MD_contract_44 ?_
          refine g_iconst (pc := 45) hX d_MD_contract_45 ?_
          refine g_icmp_ne (pc := 46) (tgt := 61) hX d_MD_contract_46 (by decide) (by omega) (by omega) (fun c_31 => ?_) (fun c_31 => ?_)
          · refine g_iconst (pc := 61) hX d_MD_contract_61 ?_
            exact g_iret (pc := 62) hX hE d_MD_contract_62 (by decide) (by decide) (Or.inl ⟨fun i2 b v e h => by
      have e2 : i2 = i := by omega
      subst e2
      rcases h.2 with h | h
      · have h1 := h.1; omega
      · have h1 := h.1; have h2 := h.2.1; omega, SZ_3, WH_3, rfl, rfl, rfl, rfl⟩)
          · have hp1 := hO.pt hi (show pP (K i) by omega)
            have hs1 := hm.1 (i + 1) hp1.1
            obtain ⟨p1, p2⟩ := hO.en hp1.1
            have hki1 := hkd (i + 1) hp1.1
            refine g_aload_n (pc := 49) hX 0 d_MD_contract_49 rfl rfl ?_
            refine g_get (pc := 50) hX f_MD_20 0 rfl rfl d_MD_contract_50 ?_
            refine g_iload_n (pc := 53) hX 1 d_MD_contract_53 rfl rfl ?_
            refine g_iconst (pc := 54) hX d_MD_contract_54 ?_
            refine g_iadd (pc := 55) hX d_MD_contract_55 ?_
            refine g_iadN (pc := 56) hX 2 (k := (i + 1)) rfl (by omega) d_MD_contract_56 ?_
            refine g_iconst (pc := 57) hX d_MD_contract_57 ?_
            refine g_icmp_eq (pc := 58) (tgt := 63) hX d_MD_contract_58 (by decide) (by omega) (by omega) (fun c_32 => ?_) (fun c_32 => ?_)
            · refine g_iload_n (pc := 63) hX 2 d_MD_contract_63 rfl rfl ?_
              refine g_if_eq (pc := 64) (tgt := 71) hX d_MD_contract_64 (by decide) (by decide) (fun c_33 => ?_) (fun c_33 => ?_)
              · refine g_iload_n (pc := 71) hX 1 d_MD_contract_71 rfl rfl ?_
                refine g_iconst (pc := 72) hX d_MD_contract_72 ?_
                refine g_iadd (pc := 73) hX d_MD_contract_73 ?_
                refine g_istore_n (pc := 74) hX 3 d_MD_contract_74 rfl (by decide) ?_
                have hp2 := hO.pt hp1.1 (show pP (K (i + 1)) by omega)
                have hs2 := hm.1 (i + 1 + 1) hp2.1
                obtain ⟨p3, p4⟩ := hO.en hp2.1
                refine g_aload_n (pc := 75) hX 0 d_MD_contract_75 rfl rfl ?_
                refine g_iload_n (pc := 76) hX 3 d_MD_contract_76 rfl rfl ?_
                refine g_iV (pc := 77) hX (c_MD_lastOf l E m A gn ln n kn sn dn mt mg SZ_3 (i + 1) (σ (i + 1 + 1)) hs2 (by omega)) gy_MD_lastOf gv_MD_lastOf w_583 rfl (by decide) (by decide) [0, 6] rfl (by decide +kernel) rfl rfl rfl _ rfl (Nat.le_of_ble_eq_true rfl) d_MD_contract_77 (by decide) (by decide) ?_
                refine g_istore (pc := 80) hX d_MD_contract_80 (by decide) ?_
                refine g_iload_n (pc := 82) hX 2 d_MD_contract_82 rfl rfl ?_
                refine g_if_eq (pc := 83) (tgt := 92) hX d_MD_contract_83 (by decide) (by decide) (fun c_34 => ?_) (fun c_34 => ?_)
                · refine g_aload_n (pc := 92) hX 0 d_MD_contract_92 rfl rfl ?_
                  refine g_iload_n (pc := 93) hX 1 d_MD_contract_93 rfl rfl ?_
                  refine g_iV (pc := 94) hX (c_MD_lastOf l E m A gn ln n kn sn dn mt mg SZ_3 i (σ (i + 1)) hs1 (by omega)) gy_MD_lastOf gv_MD_lastOf w_583 rfl (by decide) (by decide) [0, 6] rfl (by decide +kernel) rfl rfl rfl _ rfl (Nat.le_of_ble_eq_true rfl) d_MD_contract_94 (by decide) (by decide) ?_
                  refine g_istore (pc := 97) hX d_MD_contract_97 (by decide) ?_
                  refine g_lv [(0, .ref m), (1, .int (iI (i : Int))), (3, .int (iI ((i + 1) : Int))), (4, .int (iI (((i + 1) + 1 + σ ((i + 1) + 1) : Nat) : Int))), (5, .int (iI ((i + 1 + σ (i + 1)) : Int)))] ⟨rfl, rfl, rfl, rfl, rfl, trivial⟩ ?_
                  exact cont (i + 1) (i + 1 + σ (i + 1)) ⟨hi, Or.inr ⟨by omega, by omega, rfl, rfl⟩⟩ hp1.1 (by omega) hp1.2.1
                · exact absurd (by decide) c_34
              · exact absurd (by decide) c_33
            · refine g_iconst (pc := 61) hX d_MD_contract_61 ?_
              exact g_iret (pc := 62) hX hE d_MD_contract_62 (by decide) (by decide) (Or.inl ⟨fun i2 b v e h => by
      have e2 : i2 = i := by omega
      subst e2
      rcases h.2 with h | h
      · have h1 := h.1; omega
      · have h1 := h.1; have h2 := h.2.1; omega, SZ_3, WH_3, rfl, rfl, rfl, rfl⟩)
      · have hp1 := hO.pt hi (show pP (K i) by omega)
        have hs1 := hm.1 (i + 1) hp1.1
        obtain ⟨p1, p2⟩ := hO.en hp1.1
        refine g_iconst (pc := 29) hX d_MD_contract_29 ?_
        refine g_goto (pc := 30) (tgt := 34) hX d_MD_contract_30 (by decide) ?_
        refine g_istore_n (pc := 34) hX 2 d_MD_contract_34 rfl (by decide) ?_
        refine g_iload_n (pc := 35) hX 2 d_MD_contract_35 rfl rfl ?_
        refine g_if_ne (pc := 36) (tgt := 63) hX d_MD_contract_36 (by decide) (by decide) (fun c_35 => ?_) (fun c_35 => ?_)
        · refine g_iload_n (pc := 63) hX 2 d_MD_contract_63 rfl rfl ?_
          refine g_if_eq (pc := 64) (tgt := 71) hX d_MD_contract_64 (by decide) (by decide) (fun c_36 => ?_) (fun c_36 => ?_)
          · exact absurd c_36 (by decide)
          · refine g_iload_n (pc := 67) hX 1 d_MD_contract_67 rfl rfl ?_
            refine g_goto (pc := 68) (tgt := 74) hX d_MD_contract_68 (by decide) ?_
            refine g_istore_n (pc := 74) hX 3 d_MD_contract_74 rfl (by decide) ?_
            refine g_aload_n (pc := 75) hX 0 d_MD_contract_75 rfl rfl ?_
            refine g_iload_n (pc := 76) hX 3 d_MD_contract_76 rfl rfl ?_
            refine g_iV (pc := 77) hX (c_MD_lastOf l E m A gn ln n kn sn dn mt mg SZ_3 i (σ (i + 1)) hs1 (by omega)) gy_MD_lastOf gv_MD_lastOf w_583 rfl (by decide) (by decide) [0, 6] rfl (by decide +kernel) rfl rfl rfl _ rfl (Nat.le_of_ble_eq_true rfl) d_MD_contract_77 (by decide) (by decide) ?_
            refine g_istore (pc := 80) hX d_MD_contract_80 (by decide) ?_
            refine g_iload_n (pc := 82) hX 2 d_MD_contract_82 rfl rfl ?_
            refine g_if_eq (pc := 83) (tgt := 92) hX d_MD_contract_83 (by decide) (by decide) (fun c_37 => ?_) (fun c_37 => ?_)
            · exact absurd c_37 (by decide)
            · refine g_iload_n (pc := 86) hX 1 d_MD_contract_86 rfl rfl ?_
              refine g_iconst (pc := 87) hX d_MD_contract_87 ?_
              refine g_iadd (pc := 88) hX d_MD_contract_88 ?_
              refine g_goto (pc := 89) (tgt := 97) hX d_MD_contract_89 (by decide) ?_
              refine g_istore (pc := 97) hX d_MD_contract_97 (by decide) ?_
              refine g_lv [(0, .ref m), (1, .int (iI (i : Int))), (3, .int (iI (i : Int))), (4, .int (iI ((i + 1 + σ (i + 1) : Nat) : Int))), (5, .int (iI ((i + 1) : Int)))] ⟨rfl, rfl, rfl, rfl, rfl, trivial⟩ ?_
              exact cont i (i + 1) ⟨hi, Or.inl ⟨by omega, rfl, rfl⟩⟩ hi (by omega) hp1.1
        · exact absurd (by decide) c_35
    · refine g_iconst (pc := 12) hX d_MD_contract_12 ?_
      exact g_iret (pc := 13) hX hE d_MD_contract_13 (by decide) (by decide) (Or.inl ⟨fun i b v e h => by have := h.1; omega, SZ, WH, rfl, rfl, rfl, rfl⟩)
