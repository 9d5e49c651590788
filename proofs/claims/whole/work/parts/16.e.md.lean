abbrev rm_MD_under : Room := { frames := 1, cells := 0, slots := 0, locals := 21 }
set_option maxHeartbeats 4000000 in
set_option maxRecDepth 100000 in
theorem c_MD_under (l : Launch) (E : gE) (m : Nat) (A : Nat → Nat) (gn ln n kn sn dn : Nat) (mt mg : Int) (K SZ WH : Nat → Int) (k : Nat) (t : Nat) (σ : Nat → Nat) (hO : oneS n K σ) (hm : meaM n K σ SZ WH) (hkt : t ≤ k ∧ k < t + σ t ∧ t < n) : CtI l E y_MD_under b_MD_under 6 (some .int) rm_MD_under [.ref m, .int (iI (k : Int)), .int (iI (t : Int))] (mdO m A gn ln n kn sn dn mt mg ++ mI E A 3 K ++ mI E A 11 SZ ++ mI E A 12 WH) ((((env K k).length : Nat) : Int) - (((env K t).length : Nat) : Int)) := by
  obtain ⟨hz, h0, hN, hN2, hkd⟩ := id hO
  obtain ⟨t1, t2⟩ := hO.en hkt.2.2
  have hdk := env_le hz h0 (show k < n by omega)
  refine g_start (by decide) (Nat.le_of_ble_eq_true rfl) (fun X hX hE hin => ?_)
  refine g_iconst (pc := 0) hX d_MD_under_0 ?_
  refine g_istore_n (pc := 1) hX 3 d_MD_under_1 rfl (by decide) ?_
  refine g_iload_n (pc := 2) hX 1 d_MD_under_2 rfl rfl ?_
  refine g_istore (pc := 3) hX d_MD_under_3 (by decide) ?_
  have loop : ∀ (d : Nat) (p : Nat) (c : Int), p < d → t ≤ p → p < t + σ t → 0 ≤ c → c + (((env K p).length : Nat) : Int) = (((env K k).length : Nat) : Int) → gW X (mdO m A gn ln n kn sn dn mt mg ++ mI E A 3 K ++ mI E A 11 SZ ++ mI E A 12 WH) 0 0 5 [(0, .ref m), (2, .int (iI (t : Int))), (3, .int (iI (c))), (4, .int (iI (p : Int)))] [] := by
    intro d
    induction d with
    | zero => intro p c hfu hp1 hp2 hc0 hc; omega
    | succ d ih =>
      intro p c hfu hp1 hp2 hc0 hc
      refine g_iload (pc := 5) hX d_MD_under_5 rfl ?_
      refine g_iload_n (pc := 7) hX 2 d_MD_under_7 rfl rfl ?_
      refine g_icmp_eq (pc := 8) (tgt := 59) hX d_MD_under_8 (by decide) (by omega) (by omega) (fun c_1 => ?_) (fun c_1 => ?_)
      · refine g_iload_n (pc := 59) hX 3 d_MD_under_59 rfl rfl ?_
        exact g_iret (pc := 60) hX hE d_MD_under_60 (by decide) (by decide) ⟨by rw [show c = (((env K k).length : Nat) : Int) - (((env K t).length : Nat) : Int) by have e9 : p = t := (by omega); subst e9; omega], rfl, rfl, rfl⟩
      · obtain ⟨q, w1, w2, w3, w4, w5, w6, w7, w8⟩ := par_top hz h0 hm.2 hkt.2.2 (show t < p by omega) hp2
        have hkq := hkd q (by omega)
        have hsq := hm.1 (q + 1) w6
        obtain ⟨x1, x2⟩ := hO.en w6
        refine g_aload_n (pc := 11) hX 0 d_MD_under_11 rfl rfl ?_
        refine g_get (pc := 12) hX f_MD_47 0 rfl rfl d_MD_under_12 ?_
        refine g_iload (pc := 15) hX d_MD_under_15 rfl ?_
        refine g_iadN (pc := 17) hX 3 (k := p) rfl (by omega) d_MD_under_17 ?_
        rw [w1]
        refine g_istore (pc := 18) hX d_MD_under_18 (by decide) ?_
        refine g_iload_n (pc := 20) hX 3 d_MD_under_20 rfl rfl ?_
        refine g_aload_n (pc := 21) hX 0 d_MD_under_21 rfl rfl ?_
        refine g_get (pc := 22) hX f_MD_20 0 rfl rfl d_MD_under_22 ?_
        refine g_iload (pc := 25) hX d_MD_under_25 rfl ?_
        refine g_iadN (pc := 27) hX 1 (k := q) rfl (by omega) d_MD_under_27 ?_
        refine g_iS (pc := 28) hX (c_MD_binds l E _ (by omega)) gy_MD_binds w_581 w_580 rfl (by decide) (by decide) [] rfl (by decide +kernel) _ rfl (Nat.le_of_ble_eq_true rfl) d_MD_under_28 (by decide) (by decide) ?_
        refine g_beq (pc := 31) (tgt := 49) hX d_MD_under_31 (by decide) (fun c_2 => ?_) (fun c_2 => ?_)
        · refine g_iconst (pc := 49) hX d_MD_under_49 ?_
          refine g_iadd (pc := 50) hX d_MD_under_50 ?_
          refine g_istore_n (pc := 51) hX 3 d_MD_under_51 rfl (by decide) ?_
          refine g_iload (pc := 52) hX d_MD_under_52 rfl ?_
          refine g_istore (pc := 54) hX d_MD_under_54 (by decide) ?_
          refine g_goto (pc := 56) (tgt := 5) hX d_MD_under_56 (by decide) ?_
          refine g_lv [(0, .ref m), (2, .int (iI (t : Int))), (3, .int (iI (c + 0))), (4, .int (iI (q : Int)))] ⟨rfl, rfl, rfl, rfl, trivial⟩ ?_
          exact ih q (c + 0)  (by omega) (by omega) (by omega) (by omega) (by
            have e7 : (env K p).length = (env K q).length + 0 := by
              rcases w8 with h | h
              · rw [h.2.2]; omega
              · rw [h.2]; unfold lastE; rw [if_neg c_2]; omega
            omega)
        · refine g_iload (pc := 34) hX d_MD_under_34 rfl ?_
          refine g_aload_n (pc := 36) hX 0 d_MD_under_36 rfl rfl ?_
          refine g_iload (pc := 37) hX d_MD_under_37 rfl ?_
          refine g_iV (pc := 39) hX (c_MD_lastOf l E m A gn ln n kn sn dn mt mg SZ q (σ (q + 1)) hsq (by omega)) gy_MD_lastOf gv_MD_lastOf w_583 rfl (by decide) (by decide) [0, 2] rfl (by decide +kernel) rfl rfl rfl _ rfl (Nat.le_of_ble_eq_true rfl) d_MD_under_39 (by decide) (by decide) ?_
          refine g_icmp_ne (pc := 42) (tgt := 49) hX d_MD_under_42 (by decide) (by omega) (by omega) (fun c_3 => ?_) (fun c_3 => ?_)
          · refine g_iconst (pc := 49) hX d_MD_under_49 ?_
            refine g_iadd (pc := 50) hX d_MD_under_50 ?_
            refine g_istore_n (pc := 51) hX 3 d_MD_under_51 rfl (by decide) ?_
            refine g_iload (pc := 52) hX d_MD_under_52 rfl ?_
            refine g_istore (pc := 54) hX d_MD_under_54 (by decide) ?_
            refine g_goto (pc := 56) (tgt := 5) hX d_MD_under_56 (by decide) ?_
            refine g_lv [(0, .ref m), (2, .int (iI (t : Int))), (3, .int (iI (c + 0))), (4, .int (iI (q : Int)))] ⟨rfl, rfl, rfl, rfl, trivial⟩ ?_
            exact ih q (c + 0)  (by omega) (by omega) (by omega) (by omega) (by
              have e7 : (env K p).length = (env K q).length + 0 := by
                rcases w8 with h | h
                · rw [h.2.2]; omega
                · exact absurd h.1 (by omega)
              omega)
          · refine g_iconst (pc := 45) hX d_MD_under_45 ?_
            refine g_goto (pc := 46) (tgt := 50) hX d_MD_under_46 (by decide) ?_
            refine g_iadd (pc := 50) hX d_MD_under_50 ?_
            refine g_istore_n (pc := 51) hX 3 d_MD_under_51 rfl (by decide) ?_
            refine g_iload (pc := 52) hX d_MD_under_52 rfl ?_
            refine g_istore (pc := 54) hX d_MD_under_54 (by decide) ?_
            refine g_goto (pc := 56) (tgt := 5) hX d_MD_under_56 (by decide) ?_
            refine g_lv [(0, .ref m), (2, .int (iI (t : Int))), (3, .int (iI (c + 1))), (4, .int (iI (q : Int)))] ⟨rfl, rfl, rfl, rfl, trivial⟩ ?_
            exact ih q (c + 1)  (by omega) (by omega) (by omega) (by omega) (by
              have e7 : (env K p).length = (env K q).length + 1 := by
                rcases w8 with h | h
                · exact absurd h.2.1 (by omega)
                · rw [h.2]; unfold lastE; rw [if_pos c_2]; rfl
              omega)
  refine g_lv [(0, .ref m), (2, .int (iI (t : Int))), (3, .int (iI (0))), (4, .int (iI (k : Int)))] ⟨rfl, rfl, rfl, rfl, trivial⟩ ?_
  exact loop (k + 1) k 0  (by omega) (by omega) (by omega) (by omega) (by omega)
  

abbrev rm_MD_uses : Room := { frames := 2, cells := 0, slots := 0, locals := 46 }
set_option maxHeartbeats 4000000 in
set_option maxRecDepth 100000 in
theorem c_MD_uses (l : Launch) (E : gE) (m : Nat) (A : Nat → Nat) (gn ln n kn sn dn : Nat) (mt mg : Int) (LK K B SZ WH : Nat → Int) (k : Int) (hk : gin k) (σ : Nat → Nat) (hte : n = 0 ∨ oneS n K σ) (hB : ∀ j, j < n → gil (B j)) : Ct l E y_MD_uses b_MD_uses 4 (some .int) rm_MD_uses [.ref m, .int (iI k)] (mdO m A gn ln n kn sn dn mt mg ++ mI E A 1 LK ++ mI E A 3 K ++ mL E A 4 B ++ mI E A 11 SZ ++ mI E A 12 WH) (fun vv ww dc ds => ∃ S W, vv = some (.int (iI (usesM n K B σ k))) ∧ ww = mdO m A gn ln n kn sn dn mt mg ++ mI E A 1 LK ++ mI E A 3 K ++ mL E A 4 B ++ mI E A 11 S ++ mI E A 12 W ∧ ((0 ≤ k ∧ k < n ∧ bP (K k.toNat) → meaM n K σ S W) ∧ (meaM n K σ SZ WH → meaM n K σ S W)) ∧ dc = 0 ∧ ds = 0) := by
  have hn3 : n ≤ 3000 := by
    rcases hte with h | h
    · omega
    · exact h.2.2.2.1
  refine g_start (by decide) (Nat.le_of_ble_eq_true rfl) (fun X hX hE hin => ?_)
  refine g_iload_n (pc := 0) hX 1 d_MD_uses_0 rfl rfl ?_
  refine g_if_lt (pc := 1) (tgt := 24) hX d_MD_uses_1 (by decide) (by omega) (fun c_1 => ?_) (fun c_1 => ?_)
  · refine g_iconst (pc := 24) hX d_MD_uses_24 ?_
    exact g_iret (pc := 25) hX hE d_MD_uses_25 (by decide) (by decide) ⟨SZ, WH, by rw [show usesM n K B σ k = -1 from if_neg (fun q => by have q1 := q.1; have q2 := q.2.1; omega)], rfl, ⟨fun q => by have q1 := q.1; have q2 := q.2.1; omega, id⟩, rfl, rfl⟩
  · refine g_iload_n (pc := 4) hX 1 d_MD_uses_4 rfl rfl ?_
    refine g_aload_n (pc := 5) hX 0 d_MD_uses_5 rfl rfl ?_
    refine g_get (pc := 6) hX f_MD_53 0 rfl rfl d_MD_uses_6 ?_
    refine g_icmp_ge (pc := 9) (tgt := 24) hX d_MD_uses_9 (by decide) (by omega) (by omega) (fun c_2 => ?_) (fun c_2 => ?_)
    · refine g_iconst (pc := 24) hX d_MD_uses_24 ?_
      exact g_iret (pc := 25) hX hE d_MD_uses_25 (by decide) (by decide) ⟨SZ, WH, by rw [show usesM n K B σ k = -1 from if_neg (fun q => by have q1 := q.1; have q2 := q.2.1; omega)], rfl, ⟨fun q => by have q1 := q.1; have q2 := q.2.1; omega, id⟩, rfl, rfl⟩
    · obtain ⟨ku, rfl⟩ : ∃ ku : Nat, k = ku := ⟨k.toNat, by omega⟩
      have hO : oneS n K σ := by
        rcases hte with h | h
        · omega
        · exact h
      obtain ⟨hz, h0, hN, hN2, hkd⟩ := id hO
      have hkk := hkd ku (by omega)
      obtain ⟨t1, t2⟩ := hO.en (show ku < n by omega)
      refine g_aload_n (pc := 12) hX 0 d_MD_uses_12 rfl rfl ?_
      refine g_get (pc := 13) hX f_MD_20 0 rfl rfl d_MD_uses_13 ?_
      refine g_iload_n (pc := 16) hX 1 d_MD_uses_16 rfl rfl ?_
      refine g_iadN (pc := 17) hX 2 (k := ku) rfl (by omega) d_MD_uses_17 ?_
      refine g_iS (pc := 18) hX (c_MD_binds l E _ (by omega)) gy_MD_binds w_581 w_580 rfl (by decide) (by decide) [] rfl (by decide +kernel) _ rfl (Nat.le_of_ble_eq_true rfl) d_MD_uses_18 (by decide) (by decide) ?_
      refine g_bne (pc := 21) (tgt := 26) hX d_MD_uses_21 (by decide) (fun c_3 => ?_) (fun c_3 => ?_)
      · obtain ⟨z1, z2, z3⟩ := hO.pt (show ku < n by omega) (by omega)
        obtain ⟨y1, y2⟩ := hO.en z1
        obtain ⟨y3, y4⟩ := hO.en z2
        refine g_aload_n (pc := 26) hX 0 d_MD_uses_26 rfl rfl ?_
        refine g_iconst (pc := 27) hX d_MD_uses_27 ?_
        refine g_callV (pc := 28) hX (c_MD_measure l E m A gn ln n kn sn dn mt mg LK K SZ WH _ K n σ (Or.inr ⟨rfl, rfl, rfl⟩) hO) gy_MD_measure gv_MD_measure w_565 rfl (by decide) (by decide) [0, 1, 2, 4, 5] rfl (by decide +kernel) rfl rfl rfl _ rfl (Nat.le_of_ble_eq_true rfl) d_MD_uses_28 (by decide) (by decide) (fun _ _ _ _ h => by obtain ⟨_, _, _, h2, _⟩ := h; rw [h2]; exact Nat.le_of_ble_eq_true rfl) (fun v w dc_4 ds_4 hp => ?_)
        obtain ⟨SZ_4, WH_4, rfl, rfl, f_4, rfl, rfl⟩ := hp
        refine g_wsP (mdO m A gn ln n kn sn dn mt mg ++ mI E A 1 LK ++ mI E A 3 K ++ mL E A 4 B ++ mI E A 11 SZ_4 ++ mI E A 12 WH_4) rfl rfl ?_
        have hm := f_4
        have hs1 := hm.1 (ku + 1) z1
        have hs2 := hm.1 ku (by omega)
        have hd2 := dep_2 hz h0 (show ku < n by omega) (by omega)
        refine g_iconst (pc := 31) hX d_MD_uses_31 ?_
        refine g_istore_n (pc := 32) hX 2 d_MD_uses_32 rfl (by decide) ?_
        refine g_aload_n (pc := 33) hX 0 d_MD_uses_33 rfl rfl ?_
        refine g_iload_n (pc := 34) hX 1 d_MD_uses_34 rfl rfl ?_
        refine g_iV (pc := 35) hX (c_MD_lastOf l E m A gn ln n kn sn dn mt mg SZ_4 ku (σ (ku + 1)) hs1 (by omega)) gy_MD_lastOf gv_MD_lastOf w_583 rfl (by decide) (by decide) [0, 4] rfl (by decide +kernel) rfl rfl rfl _ rfl (Nat.le_of_ble_eq_true rfl) d_MD_uses_35 (by decide) (by decide) ?_
        refine g_istore_n (pc := 38) hX 3 d_MD_uses_38 rfl (by decide) ?_
        have loop : ∀ (d : Nat) (i : Nat), σ (ku + 1 + σ (ku + 1)) < i + d → i ≤ σ (ku + 1 + σ (ku + 1)) → gW X (mdO m A gn ln n kn sn dn mt mg ++ mI E A 1 LK ++ mI E A 3 K ++ mL E A 4 B ++ mI E A 11 SZ_4 ++ mI E A 12 WH_4) 0 0 39 [(0, .ref m), (1, .int (iI (ku : Int))), (2, .int (iI ((uCnt K B ku (ku + 1 + σ (ku + 1)) i : Nat) : Int))), (3, .int (iI (((ku + 1 + σ (ku + 1)) + i : Nat) : Int)))] [] := by
          intro d
          induction d with
          | zero => intro i hfu hi; omega
          | succ d ih =>
            intro i hfu hi
            have huc := uCnt_le K B ku (ku + 1 + σ (ku + 1)) i
            refine g_iload_n (pc := 39) hX 3 d_MD_uses_39 rfl rfl ?_
            refine g_iload_n (pc := 40) hX 1 d_MD_uses_40 rfl rfl ?_
            refine g_aload_n (pc := 41) hX 0 d_MD_uses_41 rfl rfl ?_
            refine g_get (pc := 42) hX f_MD_44 0 rfl rfl d_MD_uses_42 ?_
            refine g_iload_n (pc := 45) hX 1 d_MD_uses_45 rfl rfl ?_
            refine g_iadN (pc := 46) hX 4 (k := ku) rfl (by omega) d_MD_uses_46 ?_
            rw [hs2]
            refine g_iadd (pc := 47) hX d_MD_uses_47 ?_
            refine g_icmp_ge (pc := 48) (tgt := 95) hX d_MD_uses_48 (by decide) (by omega) (by omega) (fun c_5 => ?_) (fun c_5 => ?_)
            · refine g_iload_n (pc := 95) hX 2 d_MD_uses_95 rfl rfl ?_
              exact g_iret (pc := 96) hX hE d_MD_uses_96 (by decide) (by decide) ⟨SZ_4, WH_4, by rw [show usesM n K B σ (ku : Int) = ((uCnt K B ku (ku + 1 + σ (ku + 1)) i : Nat) : Int) from by rw [show i = σ (ku + 1 + σ (ku + 1)) by omega]; exact if_pos ⟨by omega, by omega, c_3⟩], rfl, ⟨fun _ => f_4, fun _ => f_4⟩, rfl, rfl⟩
            · have hBj := hB ((ku + 1 + σ (ku + 1)) + i) (by omega)
              have hKj := hkd ((ku + 1 + σ (ku + 1)) + i) (by omega)
              have hdj := env_le hz h0 (show (ku + 1 + σ (ku + 1)) + i < n by omega)
              have hdk := env_le hz h0 (show ku < n by omega)
              refine g_iload_n (pc := 51) hX 2 d_MD_uses_51 rfl rfl ?_
              refine g_aload_n (pc := 52) hX 0 d_MD_uses_52 rfl rfl ?_
              refine g_get (pc := 53) hX f_MD_20 0 rfl rfl d_MD_uses_53 ?_
              refine g_iload_n (pc := 56) hX 3 d_MD_uses_56 rfl rfl ?_
              refine g_iadN (pc := 57) hX 2 (k := ((ku + 1 + σ (ku + 1)) + i)) rfl (by omega) d_MD_uses_57 ?_
              refine g_if_ne (pc := 58) (tgt := 86) hX d_MD_uses_58 (by decide) (by omega) (fun c_6 => ?_) (fun c_6 => ?_)
              · refine g_iconst (pc := 86) hX d_MD_uses_86 ?_
                refine g_iadd (pc := 87) hX d_MD_uses_87 ?_
                have hu2 : ((uCnt K B ku (ku + 1 + σ (ku + 1)) i : Nat) : Int) + 0 = ((uCnt K B ku (ku + 1 + σ (ku + 1)) (i + 1) : Nat) : Int) := by
                  rw [uCnt_succ, if_neg (fun h => by have q1 := h.1; have q2 : B ((ku + 1 + σ (ku + 1)) + i) = (((env K ((ku + 1 + σ (ku + 1)) + i)).length : Nat) : Int) - ((((env K ku).length : Nat) : Int) + 1) := h.2; omega)]
                  omega
                rw [hu2]
                refine g_istore_n (pc := 88) hX 2 d_MD_uses_88 rfl (by decide) ?_
                refine g_iinc (pc := 89) hX d_MD_uses_89 (by decide) rfl ?_
                refine g_goto (pc := 92) (tgt := 39) hX d_MD_uses_92 (by decide) ?_
                refine g_lv [(0, .ref m), (1, .int (iI (ku : Int))), (2, .int (iI ((uCnt K B ku (ku + 1 + σ (ku + 1)) (i + 1) : Nat) : Int))), (3, .int (iI (((ku + 1 + σ (ku + 1)) + (i + 1) : Nat) : Int)))] ⟨rfl, rfl, rfl, rfl, trivial⟩ ?_
                exact ih (i + 1)  (by omega) (by omega)
              · refine g_aload_n (pc := 61) hX 0 d_MD_uses_61 rfl rfl ?_
                refine g_get (pc := 62) hX f_MD_23 0 rfl rfl d_MD_uses_62 ?_
                refine g_iload_n (pc := 65) hX 3 d_MD_uses_65 rfl rfl ?_
                refine g_ladN (pc := 66) hX 3 (k := ((ku + 1 + σ (ku + 1)) + i)) rfl (by omega) d_MD_uses_66 ?_
                refine g_aload_n (pc := 67) hX 0 d_MD_uses_67 rfl rfl ?_
                refine g_iload_n (pc := 68) hX 3 d_MD_uses_68 rfl rfl ?_
                refine g_aload_n (pc := 69) hX 0 d_MD_uses_69 rfl rfl ?_
                refine g_iload_n (pc := 70) hX 1 d_MD_uses_70 rfl rfl ?_
                refine g_iV (pc := 71) hX (c_MD_lastOf l E m A gn ln n kn sn dn mt mg SZ_4 ku (σ (ku + 1)) hs1 (by omega)) gy_MD_lastOf gv_MD_lastOf w_583 rfl (by decide) (by decide) [0, 4] rfl (by decide +kernel) rfl rfl rfl _ rfl (Nat.le_of_ble_eq_true rfl) d_MD_uses_71 (by decide) (by decide) ?_
                refine g_iV (pc := 74) hX (c_MD_under l E m A gn ln n kn sn dn mt mg K SZ_4 WH_4 ((ku + 1 + σ (ku + 1)) + i) (ku + 1 + σ (ku + 1)) σ hO hm (by omega)) gy_MD_under gv_MD_under w_604 rfl (by decide) (by decide) [0, 2, 4, 5] rfl (by decide +kernel) rfl rfl rfl _ rfl (Nat.le_of_ble_eq_true rfl) d_MD_uses_74 (by decide) (by decide) ?_
                refine g_i2l (pc := 77) hX d_MD_uses_77 (by omega) ?_
                refine g_lcmp_ne (pc := 78) (tgt := 86) hX d_MD_uses_78 d_MD_uses_79 (by decide) (by omega) (by omega) (fun c_7 => ?_) (fun c_7 => ?_)
                · refine g_iconst (pc := 86) hX d_MD_uses_86 ?_
                  refine g_iadd (pc := 87) hX d_MD_uses_87 ?_
                  have hu2 : ((uCnt K B ku (ku + 1 + σ (ku + 1)) i : Nat) : Int) + 0 = ((uCnt K B ku (ku + 1 + σ (ku + 1)) (i + 1) : Nat) : Int) := by
                    rw [uCnt_succ, if_neg (fun h => by have q1 := h.1; have q2 : B ((ku + 1 + σ (ku + 1)) + i) = (((env K ((ku + 1 + σ (ku + 1)) + i)).length : Nat) : Int) - ((((env K ku).length : Nat) : Int) + 1) := h.2; omega)]
                    omega
                  rw [hu2]
                  refine g_istore_n (pc := 88) hX 2 d_MD_uses_88 rfl (by decide) ?_
                  refine g_iinc (pc := 89) hX d_MD_uses_89 (by decide) rfl ?_
                  refine g_goto (pc := 92) (tgt := 39) hX d_MD_uses_92 (by decide) ?_
                  refine g_lv [(0, .ref m), (1, .int (iI (ku : Int))), (2, .int (iI ((uCnt K B ku (ku + 1 + σ (ku + 1)) (i + 1) : Nat) : Int))), (3, .int (iI (((ku + 1 + σ (ku + 1)) + (i + 1) : Nat) : Int)))] ⟨rfl, rfl, rfl, rfl, trivial⟩ ?_
                  exact ih (i + 1)  (by omega) (by omega)
                · refine g_iconst (pc := 82) hX d_MD_uses_82 ?_
                  refine g_goto (pc := 83) (tgt := 87) hX d_MD_uses_83 (by decide) ?_
                  refine g_iadd (pc := 87) hX d_MD_uses_87 ?_
                  have hu2 : ((uCnt K B ku (ku + 1 + σ (ku + 1)) i : Nat) : Int) + 1 = ((uCnt K B ku (ku + 1 + σ (ku + 1)) (i + 1) : Nat) : Int) := by
                    rw [uCnt_succ, if_pos ⟨by omega, show B ((ku + 1 + σ (ku + 1)) + i) = (((env K ((ku + 1 + σ (ku + 1)) + i)).length : Nat) : Int) - ((((env K ku).length : Nat) : Int) + 1) by omega⟩]
                    omega
                  rw [hu2]
                  refine g_istore_n (pc := 88) hX 2 d_MD_uses_88 rfl (by decide) ?_
                  refine g_iinc (pc := 89) hX d_MD_uses_89 (by decide) rfl ?_
                  refine g_goto (pc := 92) (tgt := 39) hX d_MD_uses_92 (by decide) ?_
                  refine g_lv [(0, .ref m), (1, .int (iI (ku : Int))), (2, .int (iI ((uCnt K B ku (ku + 1 + σ (ku + 1)) (i + 1) : Nat) : Int))), (3, .int (iI (((ku + 1 + σ (ku + 1)) + (i + 1) : Nat) : Int)))] ⟨rfl, rfl, rfl, rfl, trivial⟩ ?_
                  exact ih (i + 1)  (by omega) (by omega)
        refine g_lv [(0, .ref m), (1, .int (iI (ku : Int))), (2, .int (iI ((uCnt K B ku (ku + 1 + σ (ku + 1)) 0 : Nat) : Int))), (3, .int (iI (((ku + 1 + σ (ku + 1)) + 0 : Nat) : Int)))] ⟨rfl, rfl, rfl, rfl, trivial⟩ ?_
        exact loop (σ (ku + 1 + σ (ku + 1)) + 1) 0  (by omega) (by omega)
        
      · refine g_iconst (pc := 24) hX d_MD_uses_24 ?_
        exact g_iret (pc := 25) hX hE d_MD_uses_25 (by decide) (by decide) ⟨SZ, WH, by rw [show usesM n K B σ (ku : Int) = -1 from if_neg (fun q => c_3 q.2.2)], rfl, ⟨fun q => absurd q.2.2 c_3, id⟩, rfl, rfl⟩

abbrev rm_MD_node : Room := { frames := 2, cells := 0, slots := 0, locals := 46 }
set_option maxHeartbeats 4000000 in
set_option maxRecDepth 100000 in
theorem c_MD_node (l : Launch) (E : gE) (m : Nat) (A : Nat → Nat) (gn ln n kn sn dn : Nat) (mt mg : Int) (LK K B SZ WH : Nat → Int) (k : Int) (hk : gin k) (w : Int) (hw : gin w) (σ : Nat → Nat) (hte : n = 0 ∨ oneS n K σ) : Ct l E y_MD_node b_MD_node 3 (some .long) rm_MD_node [.ref m, .int (iI k), .int (iI w)] (mdO m A gn ln n kn sn dn mt mg ++ mI E A 1 LK ++ mI E A 3 K ++ mL E A 4 B ++ mI E A 11 SZ ++ mI E A 12 WH) (fun vv ww dc ds => ∃ S W, vv = some (.long (lI (nodeM n K B σ k w))) ∧ ww = mdO m A gn ln n kn sn dn mt mg ++ mI E A 1 LK ++ mI E A 3 K ++ mL E A 4 B ++ mI E A 11 S ++ mI E A 12 W ∧ True ∧ dc = 0 ∧ ds = 0) := by
  have hn3 : n ≤ 3000 := by
    rcases hte with h | h
    · omega
    · exact h.2.2.2.1
  refine g_start (by decide) (Nat.le_of_ble_eq_true rfl) (fun X hX hE hin => ?_)
  refine g_iload_n (pc := 0) hX 1 d_MD_node_0 rfl rfl ?_
  refine g_if_lt (pc := 1) (tgt := 21) hX d_MD_node_1 (by decide) (by omega) (fun c_1 => ?_) (fun c_1 => ?_)
  · have wv1 : nodeM n K B σ k w = -1 := by
      unfold nodeM
      by_cases h1 : 0 ≤ k ∧ k < n
      · rw [if_pos h1, if_neg (by omega), if_neg (by omega), if_neg (by omega)]
      · rw [if_neg h1]
    refine g_ldc2 (pc := 21) hX (-1) w_599 (by decide) d_MD_node_21 ?_
    exact g_lret (pc := 24) hX hE d_MD_node_24 (by decide) (by decide) ⟨SZ, WH, by rw [wv1], rfl, trivial, rfl, rfl⟩
  · refine g_iload_n (pc := 4) hX 1 d_MD_node_4 rfl rfl ?_
    refine g_aload_n (pc := 5) hX 0 d_MD_node_5 rfl rfl ?_
    refine g_get (pc := 6) hX f_MD_53 0 rfl rfl d_MD_node_6 ?_
    refine g_icmp_ge (pc := 9) (tgt := 21) hX d_MD_node_9 (by decide) (by omega) (by omega) (fun c_2 => ?_) (fun c_2 => ?_)
    · have wv1 : nodeM n K B σ k w = -1 := by
        unfold nodeM
        by_cases h1 : 0 ≤ k ∧ k < n
        · rw [if_pos h1, if_neg (by omega), if_neg (by omega), if_neg (by omega)]
        · rw [if_neg h1]
      refine g_ldc2 (pc := 21) hX (-1) w_599 (by decide) d_MD_node_21 ?_
      exact g_lret (pc := 24) hX hE d_MD_node_24 (by decide) (by decide) ⟨SZ, WH, by rw [wv1], rfl, trivial, rfl, rfl⟩
    · refine g_iload_n (pc := 12) hX 2 d_MD_node_12 rfl rfl ?_
      refine g_if_lt (pc := 13) (tgt := 21) hX d_MD_node_13 (by decide) (by omega) (fun c_3 => ?_) (fun c_3 => ?_)
      · have wv1 : nodeM n K B σ k w = -1 := by
          unfold nodeM
          by_cases h1 : 0 ≤ k ∧ k < n
          · rw [if_pos h1, if_neg (by omega), if_neg (by omega), if_neg (by omega)]
          · rw [if_neg h1]
        refine g_ldc2 (pc := 21) hX (-1) w_599 (by decide) d_MD_node_21 ?_
        exact g_lret (pc := 24) hX hE d_MD_node_24 (by decide) (by decide) ⟨SZ, WH, by rw [wv1], rfl, trivial, rfl, rfl⟩
      · refine g_iload_n (pc := 16) hX 2 d_MD_node_16 rfl rfl ?_
        refine g_iconst (pc := 17) hX d_MD_node_17 ?_
        refine g_icmp_le (pc := 18) (tgt := 25) hX d_MD_node_18 (by decide) (by omega) (by omega) (fun c_4 => ?_) (fun c_4 => ?_)
        · obtain ⟨ku, rfl⟩ : ∃ ku : Nat, k = ku := ⟨k.toNat, by omega⟩
          have hO : oneS n K σ := by
            rcases hte with h | h
            · omega
            · exact h
          obtain ⟨hz, h0, hN, hN2, hkd⟩ := id hO
          have hkk := hkd ku (by omega)
          obtain ⟨t1, t2⟩ := hO.en (show ku < n by omega)
          refine g_aload_n (pc := 25) hX 0 d_MD_node_25 rfl rfl ?_
          refine g_iconst (pc := 26) hX d_MD_node_26 ?_
          refine g_callV (pc := 27) hX (c_MD_measure l E m A gn ln n kn sn dn mt mg LK K SZ WH _ K n σ (Or.inr ⟨rfl, rfl, rfl⟩) hO) gy_MD_measure gv_MD_measure w_565 rfl (by decide) (by decide) [0, 1, 2, 4, 5] rfl (by decide +kernel) rfl rfl rfl _ rfl (Nat.le_of_ble_eq_true rfl) d_MD_node_27 (by decide) (by decide) (fun _ _ _ _ h => by obtain ⟨_, _, _, h2, _⟩ := h; rw [h2]; exact Nat.le_of_ble_eq_true rfl) (fun v w dc_5 ds_5 hp => ?_)
          obtain ⟨SZ_5, WH_5, rfl, rfl, f_5, rfl, rfl⟩ := hp
          refine g_wsP (mdO m A gn ln n kn sn dn mt mg ++ mI E A 1 LK ++ mI E A 3 K ++ mL E A 4 B ++ mI E A 11 SZ_5 ++ mI E A 12 WH_5) rfl rfl ?_
          have hs2 := f_5.1 ku (by omega)
          refine g_iload_n (pc := 30) hX 2 d_MD_node_30 rfl rfl ?_
          refine g_if_ne (pc := 31) (tgt := 44) hX d_MD_node_31 (by decide) (by omega) (fun c_6 => ?_) (fun c_6 => ?_)
          · refine g_iload_n (pc := 44) hX 2 d_MD_node_44 rfl rfl ?_
            refine g_iconst (pc := 45) hX d_MD_node_45 ?_
            refine g_icmp_ne (pc := 46) (tgt := 58) hX d_MD_node_46 (by decide) (by omega) (by omega) (fun c_7 => ?_) (fun c_7 => ?_)
            · refine g_aload_n (pc := 58) hX 0 d_MD_node_58 rfl rfl ?_
              refine g_get (pc := 59) hX f_MD_44 0 rfl rfl d_MD_node_59 ?_
              refine g_iload_n (pc := 62) hX 1 d_MD_node_62 rfl rfl ?_
              refine g_iadN (pc := 63) hX 4 (k := ku) rfl (by omega) d_MD_node_63 ?_
              rw [hs2]
              refine g_i2l (pc := 64) hX d_MD_node_64 (by omega) ?_
              exact g_lret (pc := 65) hX hE d_MD_node_65 (by decide) (by decide) ⟨SZ_5, WH_5, by unfold nodeM; rw [if_pos (by omega), if_neg (by omega), if_neg (by omega), if_pos (by omega)] <;> rfl, rfl, trivial, rfl, rfl⟩
            · refine g_aload_n (pc := 49) hX 0 d_MD_node_49 rfl rfl ?_
              refine g_get (pc := 50) hX f_MD_23 0 rfl rfl d_MD_node_50 ?_
              refine g_iload_n (pc := 53) hX 1 d_MD_node_53 rfl rfl ?_
              refine g_ladN (pc := 54) hX 3 (k := ku) rfl (by omega) d_MD_node_54 ?_
              refine g_goto (pc := 55) (tgt := 65) hX d_MD_node_55 (by decide) ?_
              exact g_lret (pc := 65) hX hE d_MD_node_65 (by decide) (by decide) ⟨SZ_5, WH_5, by unfold nodeM; rw [if_pos (by omega), if_neg (by omega), if_pos (by omega)] <;> rfl, rfl, trivial, rfl, rfl⟩
          · refine g_aload_n (pc := 34) hX 0 d_MD_node_34 rfl rfl ?_
            refine g_get (pc := 35) hX f_MD_20 0 rfl rfl d_MD_node_35 ?_
            refine g_iload_n (pc := 38) hX 1 d_MD_node_38 rfl rfl ?_
            refine g_iadN (pc := 39) hX 2 (k := ku) rfl (by omega) d_MD_node_39 ?_
            refine g_i2l (pc := 40) hX d_MD_node_40 (by omega) ?_
            refine g_goto (pc := 41) (tgt := 65) hX d_MD_node_41 (by decide) ?_
            exact g_lret (pc := 65) hX hE d_MD_node_65 (by decide) (by decide) ⟨SZ_5, WH_5, by unfold nodeM; rw [if_pos (by omega), if_pos (by omega)] <;> rfl, rfl, trivial, rfl, rfl⟩
        · have wv1 : nodeM n K B σ k w = -1 := by
            unfold nodeM
            by_cases h1 : 0 ≤ k ∧ k < n
            · rw [if_pos h1, if_neg (by omega), if_neg (by omega), if_neg (by omega)]
            · rw [if_neg h1]
          refine g_ldc2 (pc := 21) hX (-1) w_599 (by decide) d_MD_node_21 ?_
          exact g_lret (pc := 24) hX hE d_MD_node_24 (by decide) (by decide) ⟨SZ, WH, by rw [wv1], rfl, trivial, rfl, rfl⟩

abbrev rm_MD_become : Room := { frames := 2, cells := 0, slots := 0, locals := 46 }
set_option maxHeartbeats 4000000 in
set_option maxRecDepth 100000 in
theorem c_MD_become (l : Launch) (E : gE) (m : Nat) (A : Nat → Nat) (gn ln n kn sn dn : Nat) (mt mg : Int) (LK K B DK DB SZ WH : Nat → Int) (σ : Nat → Nat) (hO : oneS dn DK σ) : Ct l E y_MD_become b_MD_become 2 none rm_MD_become [.ref m] (mdO m A gn ln n kn sn dn mt mg ++ mI E A 1 LK ++ mI E A 3 K ++ mL E A 4 B ++ mI E A 9 DK ++ mL E A 10 DB ++ mI E A 11 SZ ++ mI E A 12 WH) (fun vv ww dc ds => ∃ F Q S W, vv = none ∧ ww = mdO m A gn ln dn kn sn dn mt mg ++ mI E A 1 LK ++ mI E A 3 F ++ mL E A 4 Q ++ mI E A 9 DK ++ mL E A 10 DB ++ mI E A 11 S ++ mI E A 12 W ∧ ((∀ j, j < dn → F j = DK j ∧ Q j = DB j) ∧ meaM dn F σ S W) ∧ dc = 0 ∧ ds = 0) := by
  obtain ⟨hz, h0, hN, hN2, hkd⟩ := id hO
  refine g_start (by decide) (Nat.le_of_ble_eq_true rfl) (fun X hX hE hin => ?_)
  refine g_aload_n (pc := 0) hX 0 d_MD_become_0 rfl rfl ?_
  refine g_aload_n (pc := 1) hX 0 d_MD_become_1 rfl rfl ?_
  refine g_get (pc := 2) hX f_MD_124 0 rfl rfl d_MD_become_2 ?_
  refine g_put (pc := 5) hX f_MD_53 gt_MD 0 rfl rfl rfl rfl (Nat.le_of_ble_eq_true rfl) d_MD_become_5 ?_
  refine g_ws (mdO m A gn ln dn kn sn dn mt mg ++ mI E A 1 LK ++ mI E A 3 K ++ mL E A 4 B ++ mI E A 9 DK ++ mL E A 10 DB ++ mI E A 11 SZ ++ mI E A 12 WH) rfl ?_
  refine g_iconst (pc := 8) hX d_MD_become_8 ?_
  refine g_istore_n (pc := 9) hX 1 d_MD_become_9 rfl (by decide) ?_
  have loop : ∀ (d : Nat) (k : Nat) (F Q : Nat → Int), dn < k + d → k ≤ dn → (∀ j, j < k → F j = DK j ∧ Q j = DB j) → gW X (mdO m A gn ln dn kn sn dn mt mg ++ mI E A 1 LK ++ mI E A 3 F ++ mL E A 4 Q ++ mI E A 9 DK ++ mL E A 10 DB ++ mI E A 11 SZ ++ mI E A 12 WH) 0 0 10 [(0, .ref m), (1, .int (iI (k : Int)))] [] := by
    intro d
    induction d with
    | zero => intro k F Q hfu hk hI; omega
    | succ d ih =>
      intro k F Q hfu hk hI
      refine g_iload_n (pc := 10) hX 1 d_MD_become_10 rfl rfl ?_
      refine g_aload_n (pc := 11) hX 0 d_MD_become_11 rfl rfl ?_
      refine g_get (pc := 12) hX f_MD_53 0 rfl rfl d_MD_become_12 ?_
      refine g_icmp_ge (pc := 15) (tgt := 48) hX d_MD_become_15 (by decide) (by omega) (by omega) (fun c_1 => ?_) (fun c_1 => ?_)
      · have hI2 : ∀ j, j < dn → F j = DK j ∧ Q j = DB j := fun j hj => hI j (by omega)
        have hO2 : oneS dn F σ := ⟨Sz_pP (fun j hj => by rw [(hI2 j hj).1]) hz, h0, hN, hN2, fun j hj => by rw [(hI2 j hj).1]; exact hkd j hj⟩
        refine g_aload_n (pc := 48) hX 0 d_MD_become_48 rfl rfl ?_
        refine g_iconst (pc := 49) hX d_MD_become_49 ?_
        refine g_callV (pc := 50) hX (c_MD_measure l E m A gn ln dn kn sn dn mt mg LK F SZ WH _ F dn σ (Or.inr ⟨rfl, rfl, rfl⟩) hO2) gy_MD_measure gv_MD_measure w_565 rfl (by decide) (by decide) [0, 1, 2, 6, 7] rfl (by decide +kernel) rfl rfl rfl _ rfl (Nat.le_of_ble_eq_true rfl) d_MD_become_50 (by decide) (by decide) (fun _ _ _ _ h => by obtain ⟨_, _, _, h2, _⟩ := h; rw [h2]; exact Nat.le_of_ble_eq_true rfl) (fun v w dc_2 ds_2 hp => ?_)
        obtain ⟨SZ_2, WH_2, rfl, rfl, f_2, rfl, rfl⟩ := hp
        refine g_wsP (mdO m A gn ln dn kn sn dn mt mg ++ mI E A 1 LK ++ mI E A 3 F ++ mL E A 4 Q ++ mI E A 9 DK ++ mL E A 10 DB ++ mI E A 11 SZ_2 ++ mI E A 12 WH_2) rfl rfl ?_
        exact g_vret (pc := 53) hX hE d_MD_become_53 (by decide) (by decide) ⟨F, Q, _, _, rfl, rfl, ⟨hI2, f_2⟩, rfl, rfl⟩
      · refine g_aload_n (pc := 18) hX 0 d_MD_become_18 rfl rfl ?_
        refine g_get (pc := 19) hX f_MD_20 0 rfl rfl d_MD_become_19 ?_
        refine g_iload_n (pc := 22) hX 1 d_MD_become_22 rfl rfl ?_
        refine g_aload_n (pc := 23) hX 0 d_MD_become_23 rfl rfl ?_
        refine g_get (pc := 24) hX f_MD_38 0 rfl rfl d_MD_become_24 ?_
        refine g_iload_n (pc := 27) hX 1 d_MD_become_27 rfl rfl ?_
        refine g_iadN (pc := 28) hX 4 (k := k) rfl (by omega) d_MD_become_28 ?_
        refine g_iasN (pc := 29) hX 2 (k := k) (x := DK k) rfl (by omega) d_MD_become_29 ?_
        refine g_ws (mdO m A gn ln dn kn sn dn mt mg ++ mI E A 1 LK ++ mI E A 3 (uZ F k (DK k)) ++ mL E A 4 Q ++ mI E A 9 DK ++ mL E A 10 DB ++ mI E A 11 SZ ++ mI E A 12 WH) rfl ?_
        refine g_aload_n (pc := 30) hX 0 d_MD_become_30 rfl rfl ?_
        refine g_get (pc := 31) hX f_MD_23 0 rfl rfl d_MD_become_31 ?_
        refine g_iload_n (pc := 34) hX 1 d_MD_become_34 rfl rfl ?_
        refine g_aload_n (pc := 35) hX 0 d_MD_become_35 rfl rfl ?_
        refine g_get (pc := 36) hX f_MD_41 0 rfl rfl d_MD_become_36 ?_
        refine g_iload_n (pc := 39) hX 1 d_MD_become_39 rfl rfl ?_
        refine g_ladN (pc := 40) hX 5 (k := k) rfl (by omega) d_MD_become_40 ?_
        refine g_lasN (pc := 41) hX 3 (k := k) (x := DB k) rfl (by omega) d_MD_become_41 ?_
        refine g_ws (mdO m A gn ln dn kn sn dn mt mg ++ mI E A 1 LK ++ mI E A 3 (uZ F k (DK k)) ++ mL E A 4 (uZ Q k (DB k)) ++ mI E A 9 DK ++ mL E A 10 DB ++ mI E A 11 SZ ++ mI E A 12 WH) rfl ?_
        refine g_iinc (pc := 42) hX d_MD_become_42 (by decide) rfl ?_
        refine g_goto (pc := 45) (tgt := 10) hX d_MD_become_45 (by decide) ?_
        refine g_lv [(0, .ref m), (1, .int (iI ((k + 1 : Nat) : Int)))] ⟨rfl, rfl, trivial⟩ ?_
        exact ih (k + 1) (uZ F k (DK k)) (uZ Q k (DB k)) (by omega) (by omega) (fun j hj => by
          by_cases e : j = k
          · subst e; exact ⟨uZ_s, uZ_s⟩
          · rw [uZ_n e, uZ_n e]; exact hI j (by omega))
  refine g_lv [(0, .ref m), (1, .int (iI ((0 : Nat) : Int)))] ⟨rfl, rfl, trivial⟩ ?_
  exact loop (dn + 1) 0 K B (by omega) (by omega) (fun j hj => by omega)
  
