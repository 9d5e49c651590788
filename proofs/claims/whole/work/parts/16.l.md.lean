abbrev rm_MD_write : Room := { frames := 3, cells := 0, slots := 0, locals := 69 }
set_option maxHeartbeats 4000000 in
set_option maxRecDepth 100000 in
theorem c_MD_write (l : Launch) (E : gE) (m : Nat) (A : Nat → Nat) (gn ln n kn sn dn : Nat) (mt mg : Int) (G LK K B SK SB SZ WH BO : Nat → Int) (σ : Nat → Nat) (hte : n = 0 ∨ oneS n K σ) (hcl : ∀ j, j < n → K j = 0 → 0 ≤ B j ∧ B j < ((env K j).length : Int)) (hc7 : ∀ j, j < n → K j = 7 → 0 ≤ B j ∧ B j < (gn : Int)) (hkT : kT K n) (hB31 : ∀ j, j < n → 0 ≤ B j ∧ B j < 2147483648) (hgn : gn ≤ 200) (hG : ∀ j, j < gn → 0 ≤ G j ∧ G j < 9223372036854775808) : Ct l E y_MD_write b_MD_write 5 (some .int) rm_MD_write [.ref m] (mdO m A gn ln n kn sn dn mt mg ++ mG E A G ++ mI E A 1 LK ++ mI E A 3 K ++ mL E A 4 B ++ mI E A 7 SK ++ mL E A 8 SB ++ mI E A 11 SZ ++ mI E A 12 WH ++ mI E A 13 BO) (fun vv ww dc ds => (n = 0 ∧ vv = some (.int (iI (-1))) ∧ ww = mdO m A gn ln n kn sn dn mt mg ++ mG E A G ++ mI E A 1 LK ++ mI E A 3 K ++ mL E A 4 B ++ mI E A 7 SK ++ mL E A 8 SB ++ mI E A 11 SZ ++ mI E A 12 WH ++ mI E A 13 BO ∧ dc = 0 ∧ ds = 0) ∨ (0 < n ∧ ∃ F Q S Wh O : Nat → Int, vv = some (.int (iI (n : Int))) ∧ ww = mdO m A gn ln n kn n dn mt mg ++ mG E A G ++ mI E A 1 LK ++ mI E A 3 K ++ mL E A 4 B ++ mI E A 7 F ++ mL E A 8 Q ++ mI E A 11 S ++ mI E A 12 Wh ++ mI E A 13 O ∧ (∀ j, j < n → wRf K B G σ F Q j) ∧ dc = 0 ∧ ds = 0)) := by
  have hn3 : n ≤ 3000 := by
    rcases hte with h | h
    · omega
    · exact h.2.2.2.1
  refine g_start (by decide) (Nat.le_of_ble_eq_true rfl) (fun X hX hE hin => ?_)
  refine g_aload_n (pc := 0) hX 0 d_MD_write_0 rfl rfl ?_
  refine g_get (pc := 1) hX f_MD_53 0 rfl rfl d_MD_write_1 ?_
  refine g_if_ne (pc := 4) (tgt := 9) hX d_MD_write_4 (by decide) (by omega) (fun c_1 => ?_) (fun c_1 => ?_)
  · have hO : oneS n K σ := by
      rcases hte with h | h
      · omega
      · exact h
    obtain ⟨hz, h0, hN, hN2, hkd⟩ := id hO
    have hBg : ∀ j, j < n → gil (B j) := fun j hj => by have := hB31 j hj; omega
    have hGg : ∀ j, j < gn → gil (G j) := fun j hj => by have := hG j hj; omega
    refine g_aload_n (pc := 9) hX 0 d_MD_write_9 rfl rfl ?_
    refine g_iconst (pc := 10) hX d_MD_write_10 ?_
    refine g_callV (pc := 11) hX (c_MD_measure l E m A gn ln n kn sn dn mt mg LK K SZ WH _ K n σ (Or.inr ⟨rfl, rfl, rfl⟩) hO) gy_MD_measure gv_MD_measure w_565 rfl (by decide) (by decide) [0, 2, 3, 7, 8] rfl (by decide +kernel) rfl rfl rfl _ rfl (Nat.le_of_ble_eq_true rfl) d_MD_write_11 (by decide) (by decide) (fun _ _ _ _ h => by obtain ⟨_, _, _, h2, _⟩ := h; rw [h2]; exact Nat.le_of_ble_eq_true rfl) (fun v w dc_2 ds_2 hp => ?_)
    obtain ⟨SZ_2, WH_2, rfl, rfl, f_2, rfl, rfl⟩ := hp
    refine g_wsP (mdO m A gn ln n kn sn dn mt mg ++ mG E A G ++ mI E A 1 LK ++ mI E A 3 K ++ mL E A 4 B ++ mI E A 7 SK ++ mL E A 8 SB ++ mI E A 11 SZ_2 ++ mI E A 12 WH_2 ++ mI E A 13 BO) rfl rfl ?_
    have hm := f_2
    refine g_aload_n (pc := 14) hX 0 d_MD_write_14 rfl rfl ?_
    refine g_callV (pc := 15) hX (c_MD_findBinders l E m A gn ln n kn sn dn mt mg K B SZ_2 WH_2 BO σ hO hm hcl hBg) gy_MD_findBinders gv_MD_findBinders w_621 rfl (by decide) (by decide) [0, 3, 4, 7, 8, 9] rfl (by decide +kernel) rfl rfl rfl _ rfl (Nat.le_of_ble_eq_true rfl) d_MD_write_15 (by decide) (by decide) (fun _ _ _ _ h => by obtain ⟨_, _, h2, _⟩ := h; rw [h2]; exact Nat.le_of_ble_eq_true rfl) (fun v w dc_3 ds_3 hp => ?_)
    obtain ⟨BO_3, rfl, rfl, f_3, rfl, rfl⟩ := hp
    refine g_wsP (mdO m A gn ln n kn sn dn mt mg ++ mG E A G ++ mI E A 1 LK ++ mI E A 3 K ++ mL E A 4 B ++ mI E A 7 SK ++ mL E A 8 SB ++ mI E A 11 SZ_2 ++ mI E A 12 WH_2 ++ mI E A 13 BO_3) rfl rfl ?_
    have hBO := f_3
    refine g_iconst (pc := 18) hX d_MD_write_18 ?_
    refine g_istore_n (pc := 19) hX 1 d_MD_write_19 rfl (by decide) ?_
    have loop1 : ∀ (d1 : Nat) (k : Nat) (F Q S W : Nat → Int), n < k + d1 → k ≤ n → meaM n K σ S W → (∀ j, j < k → wRf K B G σ F Q j) → gW X (mdO m A gn ln n kn sn dn mt mg ++ mG E A G ++ mI E A 1 LK ++ mI E A 3 K ++ mL E A 4 B ++ mI E A 7 F ++ mL E A 8 Q ++ mI E A 11 S ++ mI E A 12 W ++ mI E A 13 BO_3) 0 0 20 [(0, .ref m), (1, .int (iI (k : Int)))] [] := by
      intro d1
      induction d1 with
      | zero => intro k F Q S W hfu1 hk hmk hI; omega
      | succ d1 ih1 =>
        intro k F Q S W hfu1 hk hmk hI
        refine g_iload_n (pc := 20) hX 1 d_MD_write_20 rfl rfl ?_
        refine g_aload_n (pc := 21) hX 0 d_MD_write_21 rfl rfl ?_
        refine g_get (pc := 22) hX f_MD_53 0 rfl rfl d_MD_write_22 ?_
        refine g_icmp_ge (pc := 25) (tgt := 236) hX d_MD_write_25 (by decide) (by omega) (by omega) (fun c_4 => ?_) (fun c_4 => ?_)
        · refine g_aload_n (pc := 236) hX 0 d_MD_write_236 rfl rfl ?_
          refine g_aload_n (pc := 237) hX 0 d_MD_write_237 rfl rfl ?_
          refine g_get (pc := 238) hX f_MD_53 0 rfl rfl d_MD_write_238 ?_
          refine g_put (pc := 241) hX f_MD_156 gt_MD 0 rfl rfl rfl rfl (Nat.le_of_ble_eq_true rfl) d_MD_write_241 ?_
          refine g_ws (mdO m A gn ln n kn n dn mt mg ++ mG E A G ++ mI E A 1 LK ++ mI E A 3 K ++ mL E A 4 B ++ mI E A 7 F ++ mL E A 8 Q ++ mI E A 11 S ++ mI E A 12 W ++ mI E A 13 BO_3) rfl ?_
          refine g_aload_n (pc := 244) hX 0 d_MD_write_244 rfl rfl ?_
          refine g_get (pc := 245) hX f_MD_156 0 rfl rfl d_MD_write_245 ?_
          exact g_iret (pc := 248) hX hE d_MD_write_248 (by decide) (by decide) (Or.inr ⟨by omega, F, Q, S, W, BO_3, rfl, rfl, fun j hj => hI j (by omega), rfl, rfl⟩)
        · have hKk := hkT k (by omega)
          have hBk := hB31 k (by omega)
          have hQg : ∀ j, j < k → 0 ≤ Q j ∧ Q j < 9223372036854775808 := fun j hj => (hI j hj).2.2.2.2.2.2.2
          obtain ⟨t1, t2⟩ := hO.en (show k < n by omega)
          refine g_aload_n (pc := 28) hX 0 d_MD_write_28 rfl rfl ?_
          refine g_get (pc := 29) hX f_MD_32 0 rfl rfl d_MD_write_29 ?_
          refine g_iload_n (pc := 32) hX 1 d_MD_write_32 rfl rfl ?_
          refine g_aload_n (pc := 33) hX 0 d_MD_write_33 rfl rfl ?_
          refine g_get (pc := 34) hX f_MD_20 0 rfl rfl d_MD_write_34 ?_
          refine g_iload_n (pc := 37) hX 1 d_MD_write_37 rfl rfl ?_
          refine g_iadN (pc := 38) hX 3 (k := k) rfl (by omega) d_MD_write_38 ?_
          refine g_bipush (pc := 39) hX 7 d_MD_write_39 (by decide) ?_
          refine g_icmp_ne (pc := 41) (tgt := 48) hX d_MD_write_41 (by decide) (by omega) (by omega) (fun c_5 => ?_) (fun c_5 => ?_)
          · refine g_aload_n (pc := 48) hX 0 d_MD_write_48 rfl rfl ?_
            refine g_get (pc := 49) hX f_MD_20 0 rfl rfl d_MD_write_49 ?_
            refine g_iload_n (pc := 52) hX 1 d_MD_write_52 rfl rfl ?_
            refine g_iadN (pc := 53) hX 3 (k := k) rfl (by omega) d_MD_write_53 ?_
            refine g_iasN (pc := 54) hX 5 (k := k) (x := K k) rfl (by omega) d_MD_write_54 ?_
            refine g_ws (mdO m A gn ln n kn sn dn mt mg ++ mG E A G ++ mI E A 1 LK ++ mI E A 3 K ++ mL E A 4 B ++ mI E A 7 (uZ F k (K k)) ++ mL E A 8 Q ++ mI E A 11 S ++ mI E A 12 W ++ mI E A 13 BO_3) rfl ?_
            refine g_aload_n (pc := 55) hX 0 d_MD_write_55 rfl rfl ?_
            refine g_get (pc := 56) hX f_MD_35 0 rfl rfl d_MD_write_56 ?_
            refine g_iload_n (pc := 59) hX 1 d_MD_write_59 rfl rfl ?_
            refine g_aload_n (pc := 60) hX 0 d_MD_write_60 rfl rfl ?_
            refine g_get (pc := 61) hX f_MD_20 0 rfl rfl d_MD_write_61 ?_
            refine g_iload_n (pc := 64) hX 1 d_MD_write_64 rfl rfl ?_
            refine g_iadN (pc := 65) hX 3 (k := k) rfl (by omega) d_MD_write_65 ?_
            refine g_bipush (pc := 66) hX 7 d_MD_write_66 (by decide) ?_
            refine g_icmp_ne (pc := 68) (tgt := 86) hX d_MD_write_68 (by decide) (by omega) (by omega) (fun c_6 => ?_) (fun c_6 => ?_)
            · refine g_aload_n (pc := 86) hX 0 d_MD_write_86 rfl rfl ?_
              refine g_get (pc := 87) hX f_MD_20 0 rfl rfl d_MD_write_87 ?_
              refine g_iload_n (pc := 90) hX 1 d_MD_write_90 rfl rfl ?_
              refine g_iadN (pc := 91) hX 3 (k := k) rfl (by omega) d_MD_write_91 ?_
              refine g_if_ne (pc := 92) (tgt := 109) hX d_MD_write_92 (by decide) (by omega) (fun c_7 => ?_) (fun c_7 => ?_)
              · refine g_aload_n (pc := 109) hX 0 d_MD_write_109 rfl rfl ?_
                refine g_get (pc := 110) hX f_MD_20 0 rfl rfl d_MD_write_110 ?_
                refine g_iload_n (pc := 113) hX 1 d_MD_write_113 rfl rfl ?_
                refine g_iadN (pc := 114) hX 3 (k := k) rfl (by omega) d_MD_write_114 ?_
                refine g_iconst (pc := 115) hX d_MD_write_115 ?_
                refine g_icmp_ne (pc := 116) (tgt := 128) hX d_MD_write_116 (by decide) (by omega) (by omega) (fun c_8 => ?_) (fun c_8 => ?_)
                · refine g_lconst (pc := 128) hX 0 d_MD_write_128 (by decide) ?_
                  refine g_lasN (pc := 129) hX 6 (k := k) (x := 0) rfl (by omega) d_MD_write_129 ?_
                  refine g_ws (mdO m A gn ln n kn sn dn mt mg ++ mG E A G ++ mI E A 1 LK ++ mI E A 3 K ++ mL E A 4 B ++ mI E A 7 (uZ F k (K k)) ++ mL E A 8 (uZ Q k 0) ++ mI E A 11 S ++ mI E A 12 W ++ mI E A 13 BO_3) rfl ?_
                  refine g_aload_n (pc := 130) hX 0 d_MD_write_130 rfl rfl ?_
                  refine g_get (pc := 131) hX f_MD_20 0 rfl rfl d_MD_write_131 ?_
                  refine g_iload_n (pc := 134) hX 1 d_MD_write_134 rfl rfl ?_
                  refine g_iadN (pc := 135) hX 3 (k := k) rfl (by omega) d_MD_write_135 ?_
                  refine g_iS (pc := 136) hX (c_MD_binds l E _ (by omega)) gy_MD_binds w_581 w_580 rfl (by decide) (by decide) [] rfl (by decide +kernel) _ rfl (Nat.le_of_ble_eq_true rfl) d_MD_write_136 (by decide) (by decide) ?_
                  refine g_beq (pc := 139) (tgt := 230) hX d_MD_write_139 (by decide) (fun c_9 => ?_) (fun c_9 => ?_)
                  · have hw : wRf K B G σ (uZ F k (K k)) (uZ Q k 0) k := wRf_at uZ_s uZ_s (by rw [if_neg (by omega), if_neg (fun q => by have q1 := q.1; omega)]) (fun h => by omega) (fun h => by omega) (fun h => by omega) (fun _ => rfl) (fun _ => rfl) (fun h => by omega) (by omega)
                    refine g_iinc (pc := 230) hX d_MD_write_230 (by decide) rfl ?_
                    refine g_goto (pc := 233) (tgt := 20) hX d_MD_write_233 (by decide) ?_
                    refine g_lv [(0, .ref m), (1, .int (iI ((k + 1 : Nat) : Int)))] ⟨rfl, rfl, trivial⟩ ?_
                    exact ih1 (k + 1) (uZ F k (K k)) (uZ Q k 0) S W (by omega) (by omega) hmk (fun j hj => by
                      by_cases e : j = k
                      · rw [e]; exact hw
                      · exact wRf_more hz h0 (show k < n by omega) hcl (by omega) (hI j (by omega)) (fun i hi => ⟨by repeat rw [uZ_n (show i ≠ k by omega)], by repeat rw [uZ_n (show i ≠ k by omega)]⟩))
                  · obtain ⟨z1, z2, z3⟩ := hO.pt (show k < n by omega) (by omega)
                    obtain ⟨y1, y2⟩ := hO.en z1
                    obtain ⟨y3, y4⟩ := hO.en z2
                    refine g_aload_n (pc := 142) hX 0 d_MD_write_142 rfl rfl ?_
                    refine g_get (pc := 143) hX f_MD_20 0 rfl rfl d_MD_write_143 ?_
                    refine g_iload_n (pc := 146) hX 1 d_MD_write_146 rfl rfl ?_
                    refine g_iadN (pc := 147) hX 3 (k := k) rfl (by omega) d_MD_write_147 ?_
                    refine g_iconst (pc := 148) hX d_MD_write_148 ?_
                    refine g_icmp_ne (pc := 149) (tgt := 171) hX d_MD_write_149 (by decide) (by omega) (by omega) (fun c_10 => ?_) (fun c_10 => ?_)
                    · refine g_aload_n (pc := 171) hX 0 d_MD_write_171 rfl rfl ?_
                      refine g_get (pc := 172) hX f_MD_23 0 rfl rfl d_MD_write_172 ?_
                      refine g_iload_n (pc := 175) hX 1 d_MD_write_175 rfl rfl ?_
                      refine g_ladN (pc := 176) hX 4 (k := k) rfl (by omega) d_MD_write_176 ?_
                      refine g_lconst (pc := 177) hX 0 d_MD_write_177 (by decide) ?_
                      refine g_lcmp_ne (pc := 178) (tgt := 188) hX d_MD_write_178 d_MD_write_179 (by decide) (by omega) (by omega) (fun c_11 => ?_) (fun c_11 => ?_)
                      · refine g_aload_n (pc := 188) hX 0 d_MD_write_188 rfl rfl ?_
                        refine g_get (pc := 189) hX f_MD_23 0 rfl rfl d_MD_write_189 ?_
                        refine g_iload_n (pc := 192) hX 1 d_MD_write_192 rfl rfl ?_
                        refine g_ladN (pc := 193) hX 4 (k := k) rfl (by omega) d_MD_write_193 ?_
                        have how : 1 ≤ (ownN (B k)) ∧ (ownN (B k)) < 2147483648 := by unfold ownN; split <;> omega
                        refine g_st (.long (lI (ownN (B k))) :: []) (by rw [show (ownN (B k)) = B k from if_neg (by omega)] <;> rfl) ?_
                        refine g_lstore_n (pc := 194) hX 2 d_MD_write_194 rfl (by decide) ?_
                        obtain ⟨r0, hr0, hfr⟩ := ctc_free (K := K) (B := B) (G := G) (S := (uZ Q k 0)) (k := k) (lo := (k + 1 + σ (k + 1))) (hi := k + σ k) (own := (ownN (B k))) (by omega) (by omega)
                        refine g_iconst (pc := 195) hX d_MD_write_195 ?_
                        refine g_istore (pc := 196) hX d_MD_write_196 (by decide) ?_
                        have loop2 : ∀ (d2 : Nat) (r : Nat), r0 < r + d2 → r ≤ r0 → (∀ i : Nat, i < r → ctc K B G (uZ Q k 0) k (k + 1 + σ (k + 1)) (k + σ k) (nmb (ownN (B k)) (i : Int))) → gW X (mdO m A gn ln n kn sn dn mt mg ++ mG E A G ++ mI E A 1 LK ++ mI E A 3 K ++ mL E A 4 B ++ mI E A 7 (uZ F k (K k)) ++ mL E A 8 (uZ Q k 0) ++ mI E A 11 S ++ mI E A 12 W ++ mI E A 13 BO_3) 0 0 198 [(0, .ref m), (1, .int (iI (k : Int))), (2, .long (lI (ownN (B k)))), (4, .int (iI (r : Int)))] [] := by
                          intro d2
                          induction d2 with
                          | zero => intro r hfu2 hr hall; omega
                          | succ d2 ih2 =>
                            intro r hfu2 hr hall
                            have hnm := nmb_in (z := (ownN (B k))) (m := (r : Int)) (by omega) (by omega) (by omega) (by omega)
                            refine g_aload_n (pc := 198) hX 0 d_MD_write_198 rfl rfl ?_
                            refine g_iload_n (pc := 199) hX 1 d_MD_write_199 rfl rfl ?_
                            refine g_lload_n (pc := 200) hX 2 d_MD_write_200 rfl rfl ?_
                            refine g_iload (pc := 201) hX d_MD_write_201 rfl ?_
                            refine g_lS (pc := 203) hX (c_MD_numbered l E _ (by omega) _ (by omega) (by omega)) gy_MD_numbered w_627 w_626 rfl (by decide) (by decide) [] rfl (by decide +kernel) _ rfl (Nat.le_of_ble_eq_true rfl) d_MD_write_203 (by decide) (by decide) ?_
                            refine g_iV (pc := 206) hX (c_MD_catches l E m A gn ln n kn sn dn mt mg G K B (uZ Q k 0) S BO_3 k _ (by omega) σ hO hmk.1 hcl hc7 hBO (by omega) hGg (fun j hj => by rw [uZ_n (show j ≠ k by omega)]; have := hQg j hj; omega) ⟨by omega, c_9⟩) gy_MD_catches gv_MD_catches w_629 rfl (by decide) (by decide) [0, 1, 3, 4, 6, 7, 9] rfl (by decide +kernel) rfl rfl rfl _ rfl (Nat.le_of_ble_eq_true rfl) d_MD_write_206 (by decide) (by decide) ?_
                            refine g_beq (pc := 209) (tgt := 218) hX d_MD_write_209 (by decide) (fun c_12 => ?_) (fun c_12 => ?_)
                            · refine g_aload_n (pc := 218) hX 0 d_MD_write_218 rfl rfl ?_
                              refine g_get (pc := 219) hX f_MD_35 0 rfl rfl d_MD_write_219 ?_
                              refine g_iload_n (pc := 222) hX 1 d_MD_write_222 rfl rfl ?_
                              refine g_lload_n (pc := 223) hX 2 d_MD_write_223 rfl rfl ?_
                              refine g_iload (pc := 224) hX d_MD_write_224 rfl ?_
                              refine g_lS (pc := 226) hX (c_MD_numbered l E _ (by omega) _ (by omega) (by omega)) gy_MD_numbered w_627 w_626 rfl (by decide) (by decide) [] rfl (by decide +kernel) _ rfl (Nat.le_of_ble_eq_true rfl) d_MD_write_226 (by decide) (by decide) ?_
                              refine g_lasN (pc := 229) hX 6 (k := k) (x := nmb (ownN (B k)) ((r : Nat) : Int)) rfl (by omega) d_MD_write_229 ?_
                              refine g_ws (mdO m A gn ln n kn sn dn mt mg ++ mG E A G ++ mI E A 1 LK ++ mI E A 3 K ++ mL E A 4 B ++ mI E A 7 (uZ F k (K k)) ++ mL E A 8 (uZ (uZ Q k 0) k (nmb (ownN (B k)) ((r : Nat) : Int))) ++ mI E A 11 S ++ mI E A 12 W ++ mI E A 13 BO_3) rfl ?_
                              have hw : wRf K B G σ (uZ F k (K k)) (uZ (uZ Q k 0) k (nmb (ownN (B k)) ((r : Nat) : Int))) k := wRf_at uZ_s uZ_s (by rw [if_neg (by omega), if_neg (fun q => by have q1 := q.1; have q2 := q.2; omega)]) (fun h => by omega) (fun h => by omega) (fun h => by omega) (fun h => by omega) (fun h => by omega) (fun _ _ => ⟨r, by omega, rfl, fun h => c_12 ((ctc_congr (fun j hj => by repeat rw [uZ_n (show j ≠ k by omega)])).mp h), fun i hi => (ctc_congr (fun j hj => by repeat rw [uZ_n (show j ≠ k by omega)])).mp (hall i hi)⟩) hnm
                              refine g_iinc (pc := 230) hX d_MD_write_230 (by decide) rfl ?_
                              refine g_goto (pc := 233) (tgt := 20) hX d_MD_write_233 (by decide) ?_
                              refine g_lv [(0, .ref m), (1, .int (iI ((k + 1 : Nat) : Int)))] ⟨rfl, rfl, trivial⟩ ?_
                              exact ih1 (k + 1) (uZ F k (K k)) (uZ (uZ Q k 0) k (nmb (ownN (B k)) ((r : Nat) : Int))) S W (by omega) (by omega) hmk (fun j hj => by
                                by_cases e : j = k
                                · rw [e]; exact hw
                                · exact wRf_more hz h0 (show k < n by omega) hcl (by omega) (hI j (by omega)) (fun i hi => ⟨by repeat rw [uZ_n (show i ≠ k by omega)], by repeat rw [uZ_n (show i ≠ k by omega)]⟩))
                            · refine g_iinc (pc := 212) hX d_MD_write_212 (by decide) rfl ?_
                              refine g_goto (pc := 215) (tgt := 198) hX d_MD_write_215 (by decide) ?_
                              refine g_lv [(0, .ref m), (1, .int (iI (k : Int))), (2, .long (lI (ownN (B k)))), (4, .int (iI ((r + 1 : Nat) : Int)))] ⟨rfl, rfl, rfl, rfl, trivial⟩ ?_
                              exact ih2 (r + 1)  (by
                                have hne : r ≠ r0 := fun e => hfr (by rw [← e]; exact c_12)
                                omega) (by
                                have hne : r ≠ r0 := fun e => hfr (by rw [← e]; exact c_12)
                                omega) (fun i hi => by
                                by_cases e : i = r
                                · rw [e]; exact c_12
                                · exact hall i (by omega))
                        refine g_lv [(0, .ref m), (1, .int (iI (k : Int))), (2, .long (lI (ownN (B k)))), (4, .int (iI ((0 : Nat) : Int)))] ⟨rfl, rfl, rfl, rfl, trivial⟩ ?_
                        exact loop2 (r0 + 1) 0  (by omega) (by omega) (fun i hi => by omega)
                        
                      · refine g_ldc2 (pc := 182) hX 120 w_625 (by decide) d_MD_write_182 ?_
                        refine g_goto (pc := 185) (tgt := 194) hX d_MD_write_185 (by decide) ?_
                        have how : 1 ≤ (ownN (B k)) ∧ (ownN (B k)) < 2147483648 := by unfold ownN; split <;> omega
                        refine g_st (.long (lI (ownN (B k))) :: []) (by rw [show (ownN (B k)) = 120 from if_pos (by omega)] <;> rfl) ?_
                        refine g_lstore_n (pc := 194) hX 2 d_MD_write_194 rfl (by decide) ?_
                        obtain ⟨r0, hr0, hfr⟩ := ctc_free (K := K) (B := B) (G := G) (S := (uZ Q k 0)) (k := k) (lo := (k + 1 + σ (k + 1))) (hi := k + σ k) (own := (ownN (B k))) (by omega) (by omega)
                        refine g_iconst (pc := 195) hX d_MD_write_195 ?_
                        refine g_istore (pc := 196) hX d_MD_write_196 (by decide) ?_
                        have loop2 : ∀ (d2 : Nat) (r : Nat), r0 < r + d2 → r ≤ r0 → (∀ i : Nat, i < r → ctc K B G (uZ Q k 0) k (k + 1 + σ (k + 1)) (k + σ k) (nmb (ownN (B k)) (i : Int))) → gW X (mdO m A gn ln n kn sn dn mt mg ++ mG E A G ++ mI E A 1 LK ++ mI E A 3 K ++ mL E A 4 B ++ mI E A 7 (uZ F k (K k)) ++ mL E A 8 (uZ Q k 0) ++ mI E A 11 S ++ mI E A 12 W ++ mI E A 13 BO_3) 0 0 198 [(0, .ref m), (1, .int (iI (k : Int))), (2, .long (lI (ownN (B k)))), (4, .int (iI (r : Int)))] [] := by
                          intro d2
                          induction d2 with
                          | zero => intro r hfu2 hr hall; omega
                          | succ d2 ih2 =>
                            intro r hfu2 hr hall
                            have hnm := nmb_in (z := (ownN (B k))) (m := (r : Int)) (by omega) (by omega) (by omega) (by omega)
                            refine g_aload_n (pc := 198) hX 0 d_MD_write_198 rfl rfl ?_
                            refine g_iload_n (pc := 199) hX 1 d_MD_write_199 rfl rfl ?_
                            refine g_lload_n (pc := 200) hX 2 d_MD_write_200 rfl rfl ?_
                            refine g_iload (pc := 201) hX d_MD_write_201 rfl ?_
                            refine g_lS (pc := 203) hX (c_MD_numbered l E _ (by omega) _ (by omega) (by omega)) gy_MD_numbered w_627 w_626 rfl (by decide) (by decide) [] rfl (by decide +kernel) _ rfl (Nat.le_of_ble_eq_true rfl) d_MD_write_203 (by decide) (by decide) ?_
                            refine g_iV (pc := 206) hX (c_MD_catches l E m A gn ln n kn sn dn mt mg G K B (uZ Q k 0) S BO_3 k _ (by omega) σ hO hmk.1 hcl hc7 hBO (by omega) hGg (fun j hj => by rw [uZ_n (show j ≠ k by omega)]; have := hQg j hj; omega) ⟨by omega, c_9⟩) gy_MD_catches gv_MD_catches w_629 rfl (by decide) (by decide) [0, 1, 3, 4, 6, 7, 9] rfl (by decide +kernel) rfl rfl rfl _ rfl (Nat.le_of_ble_eq_true rfl) d_MD_write_206 (by decide) (by decide) ?_
                            refine g_beq (pc := 209) (tgt := 218) hX d_MD_write_209 (by decide) (fun c_13 => ?_) (fun c_13 => ?_)
                            · refine g_aload_n (pc := 218) hX 0 d_MD_write_218 rfl rfl ?_
                              refine g_get (pc := 219) hX f_MD_35 0 rfl rfl d_MD_write_219 ?_
                              refine g_iload_n (pc := 222) hX 1 d_MD_write_222 rfl rfl ?_
                              refine g_lload_n (pc := 223) hX 2 d_MD_write_223 rfl rfl ?_
                              refine g_iload (pc := 224) hX d_MD_write_224 rfl ?_
                              refine g_lS (pc := 226) hX (c_MD_numbered l E _ (by omega) _ (by omega) (by omega)) gy_MD_numbered w_627 w_626 rfl (by decide) (by decide) [] rfl (by decide +kernel) _ rfl (Nat.le_of_ble_eq_true rfl) d_MD_write_226 (by decide) (by decide) ?_
                              refine g_lasN (pc := 229) hX 6 (k := k) (x := nmb (ownN (B k)) ((r : Nat) : Int)) rfl (by omega) d_MD_write_229 ?_
                              refine g_ws (mdO m A gn ln n kn sn dn mt mg ++ mG E A G ++ mI E A 1 LK ++ mI E A 3 K ++ mL E A 4 B ++ mI E A 7 (uZ F k (K k)) ++ mL E A 8 (uZ (uZ Q k 0) k (nmb (ownN (B k)) ((r : Nat) : Int))) ++ mI E A 11 S ++ mI E A 12 W ++ mI E A 13 BO_3) rfl ?_
                              have hw : wRf K B G σ (uZ F k (K k)) (uZ (uZ Q k 0) k (nmb (ownN (B k)) ((r : Nat) : Int))) k := wRf_at uZ_s uZ_s (by rw [if_neg (by omega), if_neg (fun q => by have q1 := q.1; have q2 := q.2; omega)]) (fun h => by omega) (fun h => by omega) (fun h => by omega) (fun h => by omega) (fun h => by omega) (fun _ _ => ⟨r, by omega, rfl, fun h => c_13 ((ctc_congr (fun j hj => by repeat rw [uZ_n (show j ≠ k by omega)])).mp h), fun i hi => (ctc_congr (fun j hj => by repeat rw [uZ_n (show j ≠ k by omega)])).mp (hall i hi)⟩) hnm
                              refine g_iinc (pc := 230) hX d_MD_write_230 (by decide) rfl ?_
                              refine g_goto (pc := 233) (tgt := 20) hX d_MD_write_233 (by decide) ?_
                              refine g_lv [(0, .ref m), (1, .int (iI ((k + 1 : Nat) : Int)))] ⟨rfl, rfl, trivial⟩ ?_
                              exact ih1 (k + 1) (uZ F k (K k)) (uZ (uZ Q k 0) k (nmb (ownN (B k)) ((r : Nat) : Int))) S W (by omega) (by omega) hmk (fun j hj => by
                                by_cases e : j = k
                                · rw [e]; exact hw
                                · exact wRf_more hz h0 (show k < n by omega) hcl (by omega) (hI j (by omega)) (fun i hi => ⟨by repeat rw [uZ_n (show i ≠ k by omega)], by repeat rw [uZ_n (show i ≠ k by omega)]⟩))
                            · refine g_iinc (pc := 212) hX d_MD_write_212 (by decide) rfl ?_
                              refine g_goto (pc := 215) (tgt := 198) hX d_MD_write_215 (by decide) ?_
                              refine g_lv [(0, .ref m), (1, .int (iI (k : Int))), (2, .long (lI (ownN (B k)))), (4, .int (iI ((r + 1 : Nat) : Int)))] ⟨rfl, rfl, rfl, rfl, trivial⟩ ?_
                              exact ih2 (r + 1)  (by
                                have hne : r ≠ r0 := fun e => hfr (by rw [← e]; exact c_13)
                                omega) (by
                                have hne : r ≠ r0 := fun e => hfr (by rw [← e]; exact c_13)
                                omega) (fun i hi => by
                                by_cases e : i = r
                                · rw [e]; exact c_13
                                · exact hall i (by omega))
                        refine g_lv [(0, .ref m), (1, .int (iI (k : Int))), (2, .long (lI (ownN (B k)))), (4, .int (iI ((0 : Nat) : Int)))] ⟨rfl, rfl, rfl, rfl, trivial⟩ ?_
                        exact loop2 (r0 + 1) 0  (by omega) (by omega) (fun i hi => by omega)
                        
                    · refine g_aload_n (pc := 152) hX 0 d_MD_write_152 rfl rfl ?_
                      refine g_iload_n (pc := 153) hX 1 d_MD_write_153 rfl rfl ?_
                      refine g_callV (pc := 154) hX (c_MD_uses l E m A gn ln n kn sn dn mt mg LK K B S W _ (by omega) σ (Or.inr hO) hBg) gy_MD_uses gv_MD_uses w_612 rfl (by decide) (by decide) [0, 2, 3, 4, 7, 8] rfl (by decide +kernel) rfl rfl rfl _ rfl (Nat.le_of_ble_eq_true rfl) d_MD_write_154 (by decide) (by decide) (fun _ _ _ _ h => by obtain ⟨_, _, _, h2, _⟩ := h; rw [h2]; exact Nat.le_of_ble_eq_true rfl) (fun v w dc_14 ds_14 hp => ?_)
                      obtain ⟨SZ_14, WH_14, rfl, rfl, f_14, rfl, rfl⟩ := hp
                      refine g_wsP (mdO m A gn ln n kn sn dn mt mg ++ mG E A G ++ mI E A 1 LK ++ mI E A 3 K ++ mL E A 4 B ++ mI E A 7 (uZ F k (K k)) ++ mL E A 8 (uZ Q k 0) ++ mI E A 11 SZ_14 ++ mI E A 12 WH_14 ++ mI E A 13 BO_3) rfl rfl ?_
                      have hm3 := f_14.2 hmk
                      have hu : usesM n K B σ (k : Int) = (((uCnt K B k (k + 1 + σ (k + 1)) (σ (k + 1 + σ (k + 1)))) : Nat) : Int) := if_pos ⟨by omega, by omega, c_9⟩
                      have huc := uCnt_le K B k (k + 1 + σ (k + 1)) (σ (k + 1 + σ (k + 1)))
                      rw [hu]
                      refine g_if_ne (pc := 157) (tgt := 171) hX d_MD_write_157 (by decide) (by omega) (fun c_15 => ?_) (fun c_15 => ?_)
                      · refine g_aload_n (pc := 171) hX 0 d_MD_write_171 rfl rfl ?_
                        refine g_get (pc := 172) hX f_MD_23 0 rfl rfl d_MD_write_172 ?_
                        refine g_iload_n (pc := 175) hX 1 d_MD_write_175 rfl rfl ?_
                        refine g_ladN (pc := 176) hX 4 (k := k) rfl (by omega) d_MD_write_176 ?_
                        refine g_lconst (pc := 177) hX 0 d_MD_write_177 (by decide) ?_
                        refine g_lcmp_ne (pc := 178) (tgt := 188) hX d_MD_write_178 d_MD_write_179 (by decide) (by omega) (by omega) (fun c_16 => ?_) (fun c_16 => ?_)
                        · refine g_aload_n (pc := 188) hX 0 d_MD_write_188 rfl rfl ?_
                          refine g_get (pc := 189) hX f_MD_23 0 rfl rfl d_MD_write_189 ?_
                          refine g_iload_n (pc := 192) hX 1 d_MD_write_192 rfl rfl ?_
                          refine g_ladN (pc := 193) hX 4 (k := k) rfl (by omega) d_MD_write_193 ?_
                          have how : 1 ≤ (ownN (B k)) ∧ (ownN (B k)) < 2147483648 := by unfold ownN; split <;> omega
                          refine g_st (.long (lI (ownN (B k))) :: []) (by rw [show (ownN (B k)) = B k from if_neg (by omega)] <;> rfl) ?_
                          refine g_lstore_n (pc := 194) hX 2 d_MD_write_194 rfl (by decide) ?_
                          obtain ⟨r0, hr0, hfr⟩ := ctc_free (K := K) (B := B) (G := G) (S := (uZ Q k 0)) (k := k) (lo := (k + 1 + σ (k + 1))) (hi := k + σ k) (own := (ownN (B k))) (by omega) (by omega)
                          refine g_iconst (pc := 195) hX d_MD_write_195 ?_
                          refine g_istore (pc := 196) hX d_MD_write_196 (by decide) ?_
                          have loop2 : ∀ (d2 : Nat) (r : Nat), r0 < r + d2 → r ≤ r0 → (∀ i : Nat, i < r → ctc K B G (uZ Q k 0) k (k + 1 + σ (k + 1)) (k + σ k) (nmb (ownN (B k)) (i : Int))) → gW X (mdO m A gn ln n kn sn dn mt mg ++ mG E A G ++ mI E A 1 LK ++ mI E A 3 K ++ mL E A 4 B ++ mI E A 7 (uZ F k (K k)) ++ mL E A 8 (uZ Q k 0) ++ mI E A 11 SZ_14 ++ mI E A 12 WH_14 ++ mI E A 13 BO_3) 0 0 198 [(0, .ref m), (1, .int (iI (k : Int))), (2, .long (lI (ownN (B k)))), (4, .int (iI (r : Int)))] [] := by
                            intro d2
                            induction d2 with
                            | zero => intro r hfu2 hr hall; omega
                            | succ d2 ih2 =>
                              intro r hfu2 hr hall
                              have hnm := nmb_in (z := (ownN (B k))) (m := (r : Int)) (by omega) (by omega) (by omega) (by omega)
                              refine g_aload_n (pc := 198) hX 0 d_MD_write_198 rfl rfl ?_
                              refine g_iload_n (pc := 199) hX 1 d_MD_write_199 rfl rfl ?_
                              refine g_lload_n (pc := 200) hX 2 d_MD_write_200 rfl rfl ?_
                              refine g_iload (pc := 201) hX d_MD_write_201 rfl ?_
                              refine g_lS (pc := 203) hX (c_MD_numbered l E _ (by omega) _ (by omega) (by omega)) gy_MD_numbered w_627 w_626 rfl (by decide) (by decide) [] rfl (by decide +kernel) _ rfl (Nat.le_of_ble_eq_true rfl) d_MD_write_203 (by decide) (by decide) ?_
                              refine g_iV (pc := 206) hX (c_MD_catches l E m A gn ln n kn sn dn mt mg G K B (uZ Q k 0) SZ_14 BO_3 k _ (by omega) σ hO hm3.1 hcl hc7 hBO (by omega) hGg (fun j hj => by rw [uZ_n (show j ≠ k by omega)]; have := hQg j hj; omega) ⟨by omega, c_9⟩) gy_MD_catches gv_MD_catches w_629 rfl (by decide) (by decide) [0, 1, 3, 4, 6, 7, 9] rfl (by decide +kernel) rfl rfl rfl _ rfl (Nat.le_of_ble_eq_true rfl) d_MD_write_206 (by decide) (by decide) ?_
                              refine g_beq (pc := 209) (tgt := 218) hX d_MD_write_209 (by decide) (fun c_17 => ?_) (fun c_17 => ?_)
                              · refine g_aload_n (pc := 218) hX 0 d_MD_write_218 rfl rfl ?_
                                refine g_get (pc := 219) hX f_MD_35 0 rfl rfl d_MD_write_219 ?_
                                refine g_iload_n (pc := 222) hX 1 d_MD_write_222 rfl rfl ?_
                                refine g_lload_n (pc := 223) hX 2 d_MD_write_223 rfl rfl ?_
                                refine g_iload (pc := 224) hX d_MD_write_224 rfl ?_
                                refine g_lS (pc := 226) hX (c_MD_numbered l E _ (by omega) _ (by omega) (by omega)) gy_MD_numbered w_627 w_626 rfl (by decide) (by decide) [] rfl (by decide +kernel) _ rfl (Nat.le_of_ble_eq_true rfl) d_MD_write_226 (by decide) (by decide) ?_
                                refine g_lasN (pc := 229) hX 6 (k := k) (x := nmb (ownN (B k)) ((r : Nat) : Int)) rfl (by omega) d_MD_write_229 ?_
                                refine g_ws (mdO m A gn ln n kn sn dn mt mg ++ mG E A G ++ mI E A 1 LK ++ mI E A 3 K ++ mL E A 4 B ++ mI E A 7 (uZ F k (K k)) ++ mL E A 8 (uZ (uZ Q k 0) k (nmb (ownN (B k)) ((r : Nat) : Int))) ++ mI E A 11 SZ_14 ++ mI E A 12 WH_14 ++ mI E A 13 BO_3) rfl ?_
                                have hw : wRf K B G σ (uZ F k (K k)) (uZ (uZ Q k 0) k (nmb (ownN (B k)) ((r : Nat) : Int))) k := wRf_at uZ_s uZ_s (by rw [if_neg (by omega), if_neg (fun q => by have q1 := q.1; have q2 := q.2; omega)]) (fun h => by omega) (fun h => by omega) (fun h => by omega) (fun h => by omega) (fun h => by omega) (fun _ _ => ⟨r, by omega, rfl, fun h => c_17 ((ctc_congr (fun j hj => by repeat rw [uZ_n (show j ≠ k by omega)])).mp h), fun i hi => (ctc_congr (fun j hj => by repeat rw [uZ_n (show j ≠ k by omega)])).mp (hall i hi)⟩) hnm
                                refine g_iinc (pc := 230) hX d_MD_write_230 (by decide) rfl ?_
                                refine g_goto (pc := 233) (tgt := 20) hX d_MD_write_233 (by decide) ?_
                                refine g_lv [(0, .ref m), (1, .int (iI ((k + 1 : Nat) : Int)))] ⟨rfl, rfl, trivial⟩ ?_
                                exact ih1 (k + 1) (uZ F k (K k)) (uZ (uZ Q k 0) k (nmb (ownN (B k)) ((r : Nat) : Int))) SZ_14 WH_14 (by omega) (by omega) hm3 (fun j hj => by
                                  by_cases e : j = k
                                  · rw [e]; exact hw
                                  · exact wRf_more hz h0 (show k < n by omega) hcl (by omega) (hI j (by omega)) (fun i hi => ⟨by repeat rw [uZ_n (show i ≠ k by omega)], by repeat rw [uZ_n (show i ≠ k by omega)]⟩))
                              · refine g_iinc (pc := 212) hX d_MD_write_212 (by decide) rfl ?_
                                refine g_goto (pc := 215) (tgt := 198) hX d_MD_write_215 (by decide) ?_
                                refine g_lv [(0, .ref m), (1, .int (iI (k : Int))), (2, .long (lI (ownN (B k)))), (4, .int (iI ((r + 1 : Nat) : Int)))] ⟨rfl, rfl, rfl, rfl, trivial⟩ ?_
                                exact ih2 (r + 1)  (by
                                  have hne : r ≠ r0 := fun e => hfr (by rw [← e]; exact c_17)
                                  omega) (by
                                  have hne : r ≠ r0 := fun e => hfr (by rw [← e]; exact c_17)
                                  omega) (fun i hi => by
                                  by_cases e : i = r
                                  · rw [e]; exact c_17
                                  · exact hall i (by omega))
                          refine g_lv [(0, .ref m), (1, .int (iI (k : Int))), (2, .long (lI (ownN (B k)))), (4, .int (iI ((0 : Nat) : Int)))] ⟨rfl, rfl, rfl, rfl, trivial⟩ ?_
                          exact loop2 (r0 + 1) 0  (by omega) (by omega) (fun i hi => by omega)
                          
                        · refine g_ldc2 (pc := 182) hX 120 w_625 (by decide) d_MD_write_182 ?_
                          refine g_goto (pc := 185) (tgt := 194) hX d_MD_write_185 (by decide) ?_
                          have how : 1 ≤ (ownN (B k)) ∧ (ownN (B k)) < 2147483648 := by unfold ownN; split <;> omega
                          refine g_st (.long (lI (ownN (B k))) :: []) (by rw [show (ownN (B k)) = 120 from if_pos (by omega)] <;> rfl) ?_
                          refine g_lstore_n (pc := 194) hX 2 d_MD_write_194 rfl (by decide) ?_
                          obtain ⟨r0, hr0, hfr⟩ := ctc_free (K := K) (B := B) (G := G) (S := (uZ Q k 0)) (k := k) (lo := (k + 1 + σ (k + 1))) (hi := k + σ k) (own := (ownN (B k))) (by omega) (by omega)
                          refine g_iconst (pc := 195) hX d_MD_write_195 ?_
                          refine g_istore (pc := 196) hX d_MD_write_196 (by decide) ?_
                          have loop2 : ∀ (d2 : Nat) (r : Nat), r0 < r + d2 → r ≤ r0 → (∀ i : Nat, i < r → ctc K B G (uZ Q k 0) k (k + 1 + σ (k + 1)) (k + σ k) (nmb (ownN (B k)) (i : Int))) → gW X (mdO m A gn ln n kn sn dn mt mg ++ mG E A G ++ mI E A 1 LK ++ mI E A 3 K ++ mL E A 4 B ++ mI E A 7 (uZ F k (K k)) ++ mL E A 8 (uZ Q k 0) ++ mI E A 11 SZ_14 ++ mI E A 12 WH_14 ++ mI E A 13 BO_3) 0 0 198 [(0, .ref m), (1, .int (iI (k : Int))), (2, .long (lI (ownN (B k)))), (4, .int (iI (r : Int)))] [] := by
                            intro d2
                            induction d2 with
                            | zero => intro r hfu2 hr hall; omega
                            | succ d2 ih2 =>
                              intro r hfu2 hr hall
                              have hnm := nmb_in (z := (ownN (B k))) (m := (r : Int)) (by omega) (by omega) (by omega) (by omega)
                              refine g_aload_n (pc := 198) hX 0 d_MD_write_198 rfl rfl ?_
                              refine g_iload_n (pc := 199) hX 1 d_MD_write_199 rfl rfl ?_
                              refine g_lload_n (pc := 200) hX 2 d_MD_write_200 rfl rfl ?_
                              refine g_iload (pc := 201) hX d_MD_write_201 rfl ?_
                              refine g_lS (pc := 203) hX (c_MD_numbered l E _ (by omega) _ (by omega) (by omega)) gy_MD_numbered w_627 w_626 rfl (by decide) (by decide) [] rfl (by decide +kernel) _ rfl (Nat.le_of_ble_eq_true rfl) d_MD_write_203 (by decide) (by decide) ?_
                              refine g_iV (pc := 206) hX (c_MD_catches l E m A gn ln n kn sn dn mt mg G K B (uZ Q k 0) SZ_14 BO_3 k _ (by omega) σ hO hm3.1 hcl hc7 hBO (by omega) hGg (fun j hj => by rw [uZ_n (show j ≠ k by omega)]; have := hQg j hj; omega) ⟨by omega, c_9⟩) gy_MD_catches gv_MD_catches w_629 rfl (by decide) (by decide) [0, 1, 3, 4, 6, 7, 9] rfl (by decide +kernel) rfl rfl rfl _ rfl (Nat.le_of_ble_eq_true rfl) d_MD_write_206 (by decide) (by decide) ?_
                              refine g_beq (pc := 209) (tgt := 218) hX d_MD_write_209 (by decide) (fun c_18 => ?_) (fun c_18 => ?_)
                              · refine g_aload_n (pc := 218) hX 0 d_MD_write_218 rfl rfl ?_
                                refine g_get (pc := 219) hX f_MD_35 0 rfl rfl d_MD_write_219 ?_
                                refine g_iload_n (pc := 222) hX 1 d_MD_write_222 rfl rfl ?_
                                refine g_lload_n (pc := 223) hX 2 d_MD_write_223 rfl rfl ?_
                                refine g_iload (pc := 224) hX d_MD_write_224 rfl ?_
                                refine g_lS (pc := 226) hX (c_MD_numbered l E _ (by omega) _ (by omega) (by omega)) gy_MD_numbered w_627 w_626 rfl (by decide) (by decide) [] rfl (by decide +kernel) _ rfl (Nat.le_of_ble_eq_true rfl) d_MD_write_226 (by decide) (by decide) ?_
                                refine g_lasN (pc := 229) hX 6 (k := k) (x := nmb (ownN (B k)) ((r : Nat) : Int)) rfl (by omega) d_MD_write_229 ?_
                                refine g_ws (mdO m A gn ln n kn sn dn mt mg ++ mG E A G ++ mI E A 1 LK ++ mI E A 3 K ++ mL E A 4 B ++ mI E A 7 (uZ F k (K k)) ++ mL E A 8 (uZ (uZ Q k 0) k (nmb (ownN (B k)) ((r : Nat) : Int))) ++ mI E A 11 SZ_14 ++ mI E A 12 WH_14 ++ mI E A 13 BO_3) rfl ?_
                                have hw : wRf K B G σ (uZ F k (K k)) (uZ (uZ Q k 0) k (nmb (ownN (B k)) ((r : Nat) : Int))) k := wRf_at uZ_s uZ_s (by rw [if_neg (by omega), if_neg (fun q => by have q1 := q.1; have q2 := q.2; omega)]) (fun h => by omega) (fun h => by omega) (fun h => by omega) (fun h => by omega) (fun h => by omega) (fun _ _ => ⟨r, by omega, rfl, fun h => c_18 ((ctc_congr (fun j hj => by repeat rw [uZ_n (show j ≠ k by omega)])).mp h), fun i hi => (ctc_congr (fun j hj => by repeat rw [uZ_n (show j ≠ k by omega)])).mp (hall i hi)⟩) hnm
                                refine g_iinc (pc := 230) hX d_MD_write_230 (by decide) rfl ?_
                                refine g_goto (pc := 233) (tgt := 20) hX d_MD_write_233 (by decide) ?_
                                refine g_lv [(0, .ref m), (1, .int (iI ((k + 1 : Nat) : Int)))] ⟨rfl, rfl, trivial⟩ ?_
                                exact ih1 (k + 1) (uZ F k (K k)) (uZ (uZ Q k 0) k (nmb (ownN (B k)) ((r : Nat) : Int))) SZ_14 WH_14 (by omega) (by omega) hm3 (fun j hj => by
                                  by_cases e : j = k
                                  · rw [e]; exact hw
                                  · exact wRf_more hz h0 (show k < n by omega) hcl (by omega) (hI j (by omega)) (fun i hi => ⟨by repeat rw [uZ_n (show i ≠ k by omega)], by repeat rw [uZ_n (show i ≠ k by omega)]⟩))
                              · refine g_iinc (pc := 212) hX d_MD_write_212 (by decide) rfl ?_
                                refine g_goto (pc := 215) (tgt := 198) hX d_MD_write_215 (by decide) ?_
                                refine g_lv [(0, .ref m), (1, .int (iI (k : Int))), (2, .long (lI (ownN (B k)))), (4, .int (iI ((r + 1 : Nat) : Int)))] ⟨rfl, rfl, rfl, rfl, trivial⟩ ?_
                                exact ih2 (r + 1)  (by
                                  have hne : r ≠ r0 := fun e => hfr (by rw [← e]; exact c_18)
                                  omega) (by
                                  have hne : r ≠ r0 := fun e => hfr (by rw [← e]; exact c_18)
                                  omega) (fun i hi => by
                                  by_cases e : i = r
                                  · rw [e]; exact c_18
                                  · exact hall i (by omega))
                          refine g_lv [(0, .ref m), (1, .int (iI (k : Int))), (2, .long (lI (ownN (B k)))), (4, .int (iI ((0 : Nat) : Int)))] ⟨rfl, rfl, rfl, rfl, trivial⟩ ?_
                          exact loop2 (r0 + 1) 0  (by omega) (by omega) (fun i hi => by omega)
                          
                      · refine g_aload_n (pc := 160) hX 0 d_MD_write_160 rfl rfl ?_
                        refine g_get (pc := 161) hX f_MD_32 0 rfl rfl d_MD_write_161 ?_
                        refine g_iload_n (pc := 164) hX 1 d_MD_write_164 rfl rfl ?_
                        refine g_bipush (pc := 165) hX 6 d_MD_write_165 (by decide) ?_
                        refine g_iasN (pc := 167) hX 5 (k := k) (x := 6) rfl (by omega) d_MD_write_167 ?_
                        refine g_ws (mdO m A gn ln n kn sn dn mt mg ++ mG E A G ++ mI E A 1 LK ++ mI E A 3 K ++ mL E A 4 B ++ mI E A 7 (uZ (uZ F k (K k)) k 6) ++ mL E A 8 (uZ Q k 0) ++ mI E A 11 SZ_14 ++ mI E A 12 WH_14 ++ mI E A 13 BO_3) rfl ?_
                        refine g_goto (pc := 168) (tgt := 230) hX d_MD_write_168 (by decide) ?_
                        have hw : wRf K B G σ (uZ (uZ F k (K k)) k 6) (uZ Q k 0) k := wRf_at uZ_s uZ_s (by rw [if_neg (by omega), if_pos ⟨by omega, by omega⟩]) (fun h => by omega) (fun h => by omega) (fun h => by omega) (fun _ => rfl) (fun _ => rfl) (fun _ h => absurd rfl h) (by omega)
                        refine g_iinc (pc := 230) hX d_MD_write_230 (by decide) rfl ?_
                        refine g_goto (pc := 233) (tgt := 20) hX d_MD_write_233 (by decide) ?_
                        refine g_lv [(0, .ref m), (1, .int (iI ((k + 1 : Nat) : Int)))] ⟨rfl, rfl, trivial⟩ ?_
                        exact ih1 (k + 1) (uZ (uZ F k (K k)) k 6) (uZ Q k 0) SZ_14 WH_14 (by omega) (by omega) hm3 (fun j hj => by
                          by_cases e : j = k
                          · rw [e]; exact hw
                          · exact wRf_more hz h0 (show k < n by omega) hcl (by omega) (hI j (by omega)) (fun i hi => ⟨by repeat rw [uZ_n (show i ≠ k by omega)], by repeat rw [uZ_n (show i ≠ k by omega)]⟩))
                · refine g_aload_n (pc := 119) hX 0 d_MD_write_119 rfl rfl ?_
                  refine g_get (pc := 120) hX f_MD_23 0 rfl rfl d_MD_write_120 ?_
                  refine g_iload_n (pc := 123) hX 1 d_MD_write_123 rfl rfl ?_
                  refine g_ladN (pc := 124) hX 4 (k := k) rfl (by omega) d_MD_write_124 ?_
                  refine g_goto (pc := 125) (tgt := 129) hX d_MD_write_125 (by decide) ?_
                  refine g_lasN (pc := 129) hX 6 (k := k) (x := B k) rfl (by omega) d_MD_write_129 ?_
                  refine g_ws (mdO m A gn ln n kn sn dn mt mg ++ mG E A G ++ mI E A 1 LK ++ mI E A 3 K ++ mL E A 4 B ++ mI E A 7 (uZ F k (K k)) ++ mL E A 8 (uZ Q k (B k)) ++ mI E A 11 S ++ mI E A 12 W ++ mI E A 13 BO_3) rfl ?_
                  refine g_aload_n (pc := 130) hX 0 d_MD_write_130 rfl rfl ?_
                  refine g_get (pc := 131) hX f_MD_20 0 rfl rfl d_MD_write_131 ?_
                  refine g_iload_n (pc := 134) hX 1 d_MD_write_134 rfl rfl ?_
                  refine g_iadN (pc := 135) hX 3 (k := k) rfl (by omega) d_MD_write_135 ?_
                  refine g_iS (pc := 136) hX (c_MD_binds l E _ (by omega)) gy_MD_binds w_581 w_580 rfl (by decide) (by decide) [] rfl (by decide +kernel) _ rfl (Nat.le_of_ble_eq_true rfl) d_MD_write_136 (by decide) (by decide) ?_
                  refine g_beq (pc := 139) (tgt := 230) hX d_MD_write_139 (by decide) (fun c_19 => ?_) (fun c_19 => ?_)
                  · have hw : wRf K B G σ (uZ F k (K k)) (uZ Q k (B k)) k := wRf_at uZ_s uZ_s (by rw [if_neg (by omega), if_neg (fun q => by have q1 := q.1; omega)]) (fun h => by omega) (fun h => by omega) (fun _ => rfl) (fun h => by omega) (fun h => by omega) (fun h => by omega) (by omega)
                    refine g_iinc (pc := 230) hX d_MD_write_230 (by decide) rfl ?_
                    refine g_goto (pc := 233) (tgt := 20) hX d_MD_write_233 (by decide) ?_
                    refine g_lv [(0, .ref m), (1, .int (iI ((k + 1 : Nat) : Int)))] ⟨rfl, rfl, trivial⟩ ?_
                    exact ih1 (k + 1) (uZ F k (K k)) (uZ Q k (B k)) S W (by omega) (by omega) hmk (fun j hj => by
                      by_cases e : j = k
                      · rw [e]; exact hw
                      · exact wRf_more hz h0 (show k < n by omega) hcl (by omega) (hI j (by omega)) (fun i hi => ⟨by repeat rw [uZ_n (show i ≠ k by omega)], by repeat rw [uZ_n (show i ≠ k by omega)]⟩))
                  · exfalso; omega
              · have hBj := hBO k (by omega) (by omega)
                obtain ⟨hb1, hb2⟩ := hcl k (by omega) (by omega)
                obtain ⟨R, hR⟩ : ∃ R : Nat, R = bOf K B k := ⟨_, rfl⟩
                rw [← hR] at hBj
                have hRj : R < k := by rw [hR]; exact (env_get hz h0 (show k < n by omega) (i := (B k).toNat) (by show _ < (env K k).length; omega)).1
                have hQR := hQg R hRj
                refine g_aload_n (pc := 95) hX 0 d_MD_write_95 rfl rfl ?_
                refine g_get (pc := 96) hX f_MD_35 0 rfl rfl d_MD_write_96 ?_
                refine g_aload_n (pc := 99) hX 0 d_MD_write_99 rfl rfl ?_
                refine g_get (pc := 100) hX f_MD_50 0 rfl rfl d_MD_write_100 ?_
                refine g_iload_n (pc := 103) hX 1 d_MD_write_103 rfl rfl ?_
                refine g_iadN (pc := 104) hX 9 (k := k) rfl (by omega) d_MD_write_104 ?_
                rw [hBj]
                refine g_ladN (pc := 105) hX 6 (k := R) rfl (by omega) d_MD_write_105 ?_
                refine g_goto (pc := 106) (tgt := 129) hX d_MD_write_106 (by decide) ?_
                refine g_lasN (pc := 129) hX 6 (k := k) (x := Q R) rfl (by omega) d_MD_write_129 ?_
                refine g_ws (mdO m A gn ln n kn sn dn mt mg ++ mG E A G ++ mI E A 1 LK ++ mI E A 3 K ++ mL E A 4 B ++ mI E A 7 (uZ F k (K k)) ++ mL E A 8 (uZ Q k (Q R)) ++ mI E A 11 S ++ mI E A 12 W ++ mI E A 13 BO_3) rfl ?_
                refine g_aload_n (pc := 130) hX 0 d_MD_write_130 rfl rfl ?_
                refine g_get (pc := 131) hX f_MD_20 0 rfl rfl d_MD_write_131 ?_
                refine g_iload_n (pc := 134) hX 1 d_MD_write_134 rfl rfl ?_
                refine g_iadN (pc := 135) hX 3 (k := k) rfl (by omega) d_MD_write_135 ?_
                refine g_iS (pc := 136) hX (c_MD_binds l E _ (by omega)) gy_MD_binds w_581 w_580 rfl (by decide) (by decide) [] rfl (by decide +kernel) _ rfl (Nat.le_of_ble_eq_true rfl) d_MD_write_136 (by decide) (by decide) ?_
                refine g_beq (pc := 139) (tgt := 230) hX d_MD_write_139 (by decide) (fun c_20 => ?_) (fun c_20 => ?_)
                · have hw : wRf K B G σ (uZ F k (K k)) (uZ Q k (Q R)) k := wRf_at uZ_s uZ_s (by rw [if_neg (by omega), if_neg (fun q => by have q1 := q.1; omega)]) (fun h => by omega) (fun _ => by rw [← hR, uZ_n (by omega)]) (fun h => by omega) (fun h => by omega) (fun h => by omega) (fun h => by omega) (by omega)
                  refine g_iinc (pc := 230) hX d_MD_write_230 (by decide) rfl ?_
                  refine g_goto (pc := 233) (tgt := 20) hX d_MD_write_233 (by decide) ?_
                  refine g_lv [(0, .ref m), (1, .int (iI ((k + 1 : Nat) : Int)))] ⟨rfl, rfl, trivial⟩ ?_
                  exact ih1 (k + 1) (uZ F k (K k)) (uZ Q k (Q R)) S W (by omega) (by omega) hmk (fun j hj => by
                    by_cases e : j = k
                    · rw [e]; exact hw
                    · exact wRf_more hz h0 (show k < n by omega) hcl (by omega) (hI j (by omega)) (fun i hi => ⟨by repeat rw [uZ_n (show i ≠ k by omega)], by repeat rw [uZ_n (show i ≠ k by omega)]⟩))
                · exfalso; omega
            · exfalso; omega
          · refine g_iconst (pc := 44) hX d_MD_write_44 ?_
            refine g_goto (pc := 45) (tgt := 54) hX d_MD_write_45 (by decide) ?_
            refine g_iasN (pc := 54) hX 5 (k := k) (x := 0) rfl (by omega) d_MD_write_54 ?_
            refine g_ws (mdO m A gn ln n kn sn dn mt mg ++ mG E A G ++ mI E A 1 LK ++ mI E A 3 K ++ mL E A 4 B ++ mI E A 7 (uZ F k 0) ++ mL E A 8 Q ++ mI E A 11 S ++ mI E A 12 W ++ mI E A 13 BO_3) rfl ?_
            refine g_aload_n (pc := 55) hX 0 d_MD_write_55 rfl rfl ?_
            refine g_get (pc := 56) hX f_MD_35 0 rfl rfl d_MD_write_56 ?_
            refine g_iload_n (pc := 59) hX 1 d_MD_write_59 rfl rfl ?_
            refine g_aload_n (pc := 60) hX 0 d_MD_write_60 rfl rfl ?_
            refine g_get (pc := 61) hX f_MD_20 0 rfl rfl d_MD_write_61 ?_
            refine g_iload_n (pc := 64) hX 1 d_MD_write_64 rfl rfl ?_
            refine g_iadN (pc := 65) hX 3 (k := k) rfl (by omega) d_MD_write_65 ?_
            refine g_bipush (pc := 66) hX 7 d_MD_write_66 (by decide) ?_
            refine g_icmp_ne (pc := 68) (tgt := 86) hX d_MD_write_68 (by decide) (by omega) (by omega) (fun c_21 => ?_) (fun c_21 => ?_)
            · exfalso; omega
            · obtain ⟨hb1, hb2⟩ := hc7 k (by omega) (by omega)
              obtain ⟨gj, hgj⟩ : ∃ gj : Nat, B k = (gj : Int) := ⟨(B k).toNat, by omega⟩
              have hGj := hG gj (by omega)
              refine g_aload_n (pc := 71) hX 0 d_MD_write_71 rfl rfl ?_
              refine g_get (pc := 72) hX f_MD_7 0 rfl rfl d_MD_write_72 ?_
              refine g_aload_n (pc := 75) hX 0 d_MD_write_75 rfl rfl ?_
              refine g_get (pc := 76) hX f_MD_23 0 rfl rfl d_MD_write_76 ?_
              refine g_iload_n (pc := 79) hX 1 d_MD_write_79 rfl rfl ?_
              refine g_ladN (pc := 80) hX 4 (k := k) rfl (by omega) d_MD_write_80 ?_
              refine g_l2i (pc := 81) hX d_MD_write_81 ?_
              rw [hgj]
              refine g_ladN (pc := 82) hX 1 (k := gj) rfl (by omega) d_MD_write_82 ?_
              refine g_goto (pc := 83) (tgt := 129) hX d_MD_write_83 (by decide) ?_
              refine g_lasN (pc := 129) hX 6 (k := k) (x := G gj) rfl (by omega) d_MD_write_129 ?_
              refine g_ws (mdO m A gn ln n kn sn dn mt mg ++ mG E A G ++ mI E A 1 LK ++ mI E A 3 K ++ mL E A 4 B ++ mI E A 7 (uZ F k 0) ++ mL E A 8 (uZ Q k (G gj)) ++ mI E A 11 S ++ mI E A 12 W ++ mI E A 13 BO_3) rfl ?_
              refine g_aload_n (pc := 130) hX 0 d_MD_write_130 rfl rfl ?_
              refine g_get (pc := 131) hX f_MD_20 0 rfl rfl d_MD_write_131 ?_
              refine g_iload_n (pc := 134) hX 1 d_MD_write_134 rfl rfl ?_
              refine g_iadN (pc := 135) hX 3 (k := k) rfl (by omega) d_MD_write_135 ?_
              refine g_iS (pc := 136) hX (c_MD_binds l E _ (by omega)) gy_MD_binds w_581 w_580 rfl (by decide) (by decide) [] rfl (by decide +kernel) _ rfl (Nat.le_of_ble_eq_true rfl) d_MD_write_136 (by decide) (by decide) ?_
              refine g_beq (pc := 139) (tgt := 230) hX d_MD_write_139 (by decide) (fun c_22 => ?_) (fun c_22 => ?_)
              · have hw : wRf K B G σ (uZ F k 0) (uZ Q k (G gj)) k := wRf_at uZ_s uZ_s ((if_pos (by omega)).symm) (fun _ => by rw [hgj]; rfl) (fun h => by omega) (fun h => by omega) (fun h => by omega) (fun h => by omega) (fun h => by omega) (by omega)
                refine g_iinc (pc := 230) hX d_MD_write_230 (by decide) rfl ?_
                refine g_goto (pc := 233) (tgt := 20) hX d_MD_write_233 (by decide) ?_
                refine g_lv [(0, .ref m), (1, .int (iI ((k + 1 : Nat) : Int)))] ⟨rfl, rfl, trivial⟩ ?_
                exact ih1 (k + 1) (uZ F k 0) (uZ Q k (G gj)) S W (by omega) (by omega) hmk (fun j hj => by
                  by_cases e : j = k
                  · rw [e]; exact hw
                  · exact wRf_more hz h0 (show k < n by omega) hcl (by omega) (hI j (by omega)) (fun i hi => ⟨by repeat rw [uZ_n (show i ≠ k by omega)], by repeat rw [uZ_n (show i ≠ k by omega)]⟩))
              · exfalso; omega
    refine g_lv [(0, .ref m), (1, .int (iI ((0 : Nat) : Int)))] ⟨rfl, rfl, trivial⟩ ?_
    exact loop1 (n + 1) 0 SK SB SZ_2 WH_2 (by omega) (by omega) hm (fun j hj => by omega)
    
  · refine g_iconst (pc := 7) hX d_MD_write_7 ?_
    exact g_iret (pc := 8) hX hE d_MD_write_8 (by decide) (by decide) (Or.inl ⟨by omega, rfl, rfl, rfl, rfl⟩)
