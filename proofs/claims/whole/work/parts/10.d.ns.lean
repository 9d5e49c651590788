abbrev rm_NS_same : Room := { frames := 2, cells := 0, slots := 0, locals := 42 }
set_option maxHeartbeats 4000000 in
set_option maxRecDepth 100000 in
theorem c_NS_same (l : Launch) (E : gE) (x g kp pa la s n te sp : Nat) (tec : RowT) (tek : rowOK tec) (kpc : RowT) (kpk : rowOK kpc) : CtI l E y_NS_same b_NS_same 4 (some .boolean) rm_NS_same [.ref x] (nsO x g kp pa la s n te sp ++ rowW E te tec ++ rowW E kp kpc) (bZ (sameR tec kpc)) := by
  obtain ⟨⟨te1, te2, te3, te4⟩, tef, teg, teh⟩ := id tek
  obtain ⟨⟨kp1, kp2, kp3, kp4⟩, kpf, kpg, kph⟩ := id kpk
  refine g_start (by decide) (Nat.le_of_ble_eq_true rfl) (fun X hX hE hin => ?_)
  refine g_aload_n (pc := 0) hX 0 d_NS_same_0 rfl rfl ?_
  refine g_get (pc := 1) hX f_NS_43 0 rfl rfl d_NS_same_1 ?_
  refine g_iV (pc := 4) hX (c_RW_count l E te tec tek) gy_RW_count gv_RW_count w_156 rfl (by decide) (by decide) [1, 2, 3, 4] rfl rfl rfl rfl rfl _ rfl (Nat.le_of_ble_eq_true rfl) d_NS_same_4 (by decide) (by decide) ?_
  refine g_istore_n (pc := 7) hX 1 d_NS_same_7 rfl (by decide) ?_
  refine g_iload_n (pc := 8) hX 1 d_NS_same_8 rfl rfl ?_
  refine g_aload_n (pc := 9) hX 0 d_NS_same_9 rfl rfl ?_
  refine g_get (pc := 10) hX f_NS_19 0 rfl rfl d_NS_same_10 ?_
  refine g_iV (pc := 13) hX (c_RW_count l E kp kpc kpk) gy_RW_count gv_RW_count w_156 rfl (by decide) (by decide) [5, 6, 7, 8] rfl rfl rfl rfl rfl _ rfl (Nat.le_of_ble_eq_true rfl) d_NS_same_13 (by decide) (by decide) ?_
  refine g_icmp_eq (pc := 16) (tgt := 21) hX d_NS_same_16 (by decide) (by omega) (by omega) (fun c_1 => ?_) (fun c_1 => ?_)
  · refine g_iconst (pc := 21) hX d_NS_same_21 ?_
    refine g_istore_n (pc := 22) hX 2 d_NS_same_22 rfl (by decide) ?_
    have loop : ∀ (d : Nat) (j : Nat), rN tec < j + d → j ≤ rN tec → (∀ i, i < j → rF tec i = rF kpc i ∧ (bP (rF tec i) ∨ rG tec i = rG kpc i)) → gW X (nsO x g kp pa la s n te sp ++ rowW E te tec ++ rowW E kp kpc) 0 0 23 [(0, .ref x), (1, .int (iI (rN tec : Int))), (2, .int (iI (j : Int)))] [] := by
      intro d
      induction d with
      | zero => intro j hfu hj hi; omega
      | succ d ih =>
        intro j hfu hj hi
        refine g_iload_n (pc := 23) hX 2 d_NS_same_23 rfl rfl ?_
        refine g_iload_n (pc := 24) hX 1 d_NS_same_24 rfl rfl ?_
        refine g_icmp_ge (pc := 25) (tgt := 86) hX d_NS_same_25 (by decide) (by omega) (by omega) (fun c_2 => ?_) (fun c_2 => ?_)
        · refine g_iconst (pc := 86) hX d_NS_same_86 ?_
          exact g_zret (pc := 87) hX hE (by first | exact Or.inl rfl | exact Or.inr rfl | exact bZ_01 _) d_NS_same_87 (by decide) (by decide) ⟨by rw [bZ_t ⟨by omega, fun i q => hi i (by omega)⟩], rfl, rfl, rfl⟩
        · have q1 : rK tec (j : Int) = rF tec j := rK_t (by omega)
          have q2 : rK kpc (j : Int) = rF kpc j := rK_t (by omega)
          have q3 : rB tec (j : Int) = rG tec j := rB_t (by omega)
          have q4 : rB kpc (j : Int) = rG kpc j := rB_t (by omega)
          have p1 := tef j
          have p2 := kpf j
          have p3 := teg j
          have p4 := kpg j
          refine g_aload_n (pc := 28) hX 0 d_NS_same_28 rfl rfl ?_
          refine g_get (pc := 29) hX f_NS_43 0 rfl rfl d_NS_same_29 ?_
          refine g_iload_n (pc := 32) hX 2 d_NS_same_32 rfl rfl ?_
          refine g_iV (pc := 33) hX (c_RW_kind l E te tec tek _ (by omega)) gy_RW_kind gv_RW_kind w_273 rfl (by decide) (by decide) [1, 2, 3, 4] rfl rfl rfl rfl rfl _ rfl (Nat.le_of_ble_eq_true rfl) d_NS_same_33 (by decide) (by decide) ?_
          rw [q1]
          refine g_istore_n (pc := 36) hX 3 d_NS_same_36 rfl (by decide) ?_
          refine g_iload_n (pc := 37) hX 3 d_NS_same_37 rfl rfl ?_
          refine g_aload_n (pc := 38) hX 0 d_NS_same_38 rfl rfl ?_
          refine g_get (pc := 39) hX f_NS_19 0 rfl rfl d_NS_same_39 ?_
          refine g_iload_n (pc := 42) hX 2 d_NS_same_42 rfl rfl ?_
          refine g_iV (pc := 43) hX (c_RW_kind l E kp kpc kpk _ (by omega)) gy_RW_kind gv_RW_kind w_273 rfl (by decide) (by decide) [5, 6, 7, 8] rfl rfl rfl rfl rfl _ rfl (Nat.le_of_ble_eq_true rfl) d_NS_same_43 (by decide) (by decide) ?_
          rw [q2]
          refine g_icmp_eq (pc := 46) (tgt := 51) hX d_NS_same_46 (by decide) (by omega) (by omega) (fun c_3 => ?_) (fun c_3 => ?_)
          · have kf : rF tec j = rF kpc j := by omega
            refine g_iload_n (pc := 51) hX 3 d_NS_same_51 rfl rfl ?_
            refine g_iS (pc := 52) hX (c_NS_isBinder l E _ (by omega)) gy_NS_isBinder w_218 w_217 rfl (by decide) (by decide) [] rfl rfl _ rfl (Nat.le_of_ble_eq_true rfl) d_NS_same_52 (by decide) (by decide) ?_
            refine g_bne (pc := 55) (tgt := 80) hX d_NS_same_55 (by decide) (fun c_4 => ?_) (fun c_4 => ?_)
            · have kb : bP (rF tec j) := c_4
              refine g_iinc (pc := 80) hX d_NS_same_80 (by decide) rfl ?_
              refine g_goto (pc := 83) (tgt := 23) hX d_NS_same_83 (by decide) ?_
              refine g_lv [(0, .ref x), (1, .int (iI (rN tec : Int))), (2, .int (iI ((j + 1 : Nat) : Int)))] ⟨rfl, rfl, rfl, trivial⟩ ?_
              exact ih (j + 1) (by omega) (by omega) (fun i q => by
                by_cases e : i = j
                · subst e; exact ⟨kf, by first | exact Or.inl kb | exact Or.inr kb⟩
                · exact hi i (by omega))
            · refine g_aload_n (pc := 58) hX 0 d_NS_same_58 rfl rfl ?_
              refine g_get (pc := 59) hX f_NS_43 0 rfl rfl d_NS_same_59 ?_
              refine g_iload_n (pc := 62) hX 2 d_NS_same_62 rfl rfl ?_
              refine g_lV (pc := 63) hX (c_RW_beside l E te tec tek _ (by omega)) gy_RW_beside gv_RW_beside w_274 rfl (by decide) (by decide) [1, 2, 3, 4] rfl rfl rfl rfl rfl _ rfl (Nat.le_of_ble_eq_true rfl) d_NS_same_63 (by decide) (by decide) ?_
              rw [q3]
              refine g_aload_n (pc := 66) hX 0 d_NS_same_66 rfl rfl ?_
              refine g_get (pc := 67) hX f_NS_19 0 rfl rfl d_NS_same_67 ?_
              refine g_iload_n (pc := 70) hX 2 d_NS_same_70 rfl rfl ?_
              refine g_lV (pc := 71) hX (c_RW_beside l E kp kpc kpk _ (by omega)) gy_RW_beside gv_RW_beside w_274 rfl (by decide) (by decide) [5, 6, 7, 8] rfl rfl rfl rfl rfl _ rfl (Nat.le_of_ble_eq_true rfl) d_NS_same_71 (by decide) (by decide) ?_
              rw [q4]
              refine g_lcmp_eq (pc := 74) (tgt := 80) hX d_NS_same_74 d_NS_same_75 (by decide) (by omega) (by omega) (fun c_5 => ?_) (fun c_5 => ?_)
              · have kb : rG tec j = rG kpc j := by omega
                refine g_iinc (pc := 80) hX d_NS_same_80 (by decide) rfl ?_
                refine g_goto (pc := 83) (tgt := 23) hX d_NS_same_83 (by decide) ?_
                refine g_lv [(0, .ref x), (1, .int (iI (rN tec : Int))), (2, .int (iI ((j + 1 : Nat) : Int)))] ⟨rfl, rfl, rfl, trivial⟩ ?_
                exact ih (j + 1) (by omega) (by omega) (fun i q => by
                  by_cases e : i = j
                  · subst e; exact ⟨kf, by first | exact Or.inl kb | exact Or.inr kb⟩
                  · exact hi i (by omega))
              · refine g_iconst (pc := 78) hX d_NS_same_78 ?_
                exact g_zret (pc := 79) hX hE (by first | exact Or.inl rfl | exact Or.inr rfl | exact bZ_01 _) d_NS_same_79 (by decide) (by decide) ⟨by rw [bZ_f (fun q => (q.2 j (by omega)).2.elim c_4 (fun z => by omega))], rfl, rfl, rfl⟩
          · refine g_iconst (pc := 49) hX d_NS_same_49 ?_
            exact g_zret (pc := 50) hX hE (by first | exact Or.inl rfl | exact Or.inr rfl | exact bZ_01 _) d_NS_same_50 (by decide) (by decide) ⟨by rw [bZ_f (fun q => by have := (q.2 j (by omega)).1; omega)], rfl, rfl, rfl⟩
    refine g_lv [(0, .ref x), (1, .int (iI (rN tec : Int))), (2, .int (iI ((0 : Nat) : Int)))] ⟨rfl, rfl, rfl, trivial⟩ ?_
    exact loop (rN tec + 1) 0 (by omega) (by omega) (fun i q => by omega)
    
  · refine g_iconst (pc := 19) hX d_NS_same_19 ?_
    exact g_zret (pc := 20) hX hE (by first | exact Or.inl rfl | exact Or.inr rfl | exact bZ_01 _) d_NS_same_20 (by decide) (by decide) ⟨by rw [bZ_f (fun q => by have := q.1; omega)], rfl, rfl, rfl⟩

abbrev rm_NS_contractible : Room := { frames := 2, cells := 0, slots := 0, locals := 42 }
set_option maxHeartbeats 4000000 in
set_option maxRecDepth 100000 in
theorem c_NS_contractible (l : Launch) (E : gE) (x g kp pa la s n te sp : Nat) (tec : RowT) (tek : rowOK tec) (k : Int) (hk : gin k) : CtI l E y_NS_contractible b_NS_contractible 2 (some .int) rm_NS_contractible [.ref x, .int (iI k)] (nsO x g kp pa la s n te sp ++ rowW E te tec) (cbl tec k) := by
  obtain ⟨⟨te1, te2, te3, te4⟩, tef, teg, teh⟩ := id tek
  have k1 := rK_in tek k
  have k2 := rK_in tek (k + 1)
  refine g_start (by decide) (Nat.le_of_ble_eq_true rfl) (fun X hX hE hin => ?_)
  refine g_aload_n (pc := 0) hX 0 d_NS_contractible_0 rfl rfl ?_
  refine g_get (pc := 1) hX f_NS_43 0 rfl rfl d_NS_contractible_1 ?_
  refine g_iload_n (pc := 4) hX 1 d_NS_contractible_4 rfl rfl ?_
  refine g_iV (pc := 5) hX (c_RW_has l E te tec tek _ (by omega)) gy_RW_has gv_RW_has w_308 rfl (by decide) (by decide) [1, 2, 3, 4] rfl rfl rfl rfl rfl _ rfl (Nat.le_of_ble_eq_true rfl) d_NS_contractible_5 (by decide) (by decide) ?_
  refine g_bne (pc := 8) (tgt := 13) hX d_NS_contractible_8 (by decide) (fun c_1 => ?_) (fun c_1 => ?_)
  · have q1 : rK tec k = rF tec k.toNat := rK_t c_1
    refine g_aload_n (pc := 13) hX 0 d_NS_contractible_13 rfl rfl ?_
    refine g_get (pc := 14) hX f_NS_43 0 rfl rfl d_NS_contractible_14 ?_
    refine g_iload_n (pc := 17) hX 1 d_NS_contractible_17 rfl rfl ?_
    refine g_iV (pc := 18) hX (c_RW_kind l E te tec tek _ (by omega)) gy_RW_kind gv_RW_kind w_273 rfl (by decide) (by decide) [1, 2, 3, 4] rfl rfl rfl rfl rfl _ rfl (Nat.le_of_ble_eq_true rfl) d_NS_contractible_18 (by decide) (by decide) ?_
    refine g_iconst (pc := 21) hX d_NS_contractible_21 ?_
    refine g_icmp_ne (pc := 22) (tgt := 27) hX d_NS_contractible_22 (by decide) (by omega) (by omega) (fun c_2 => ?_) (fun c_2 => ?_)
    · refine g_aload_n (pc := 27) hX 0 d_NS_contractible_27 rfl rfl ?_
      refine g_get (pc := 28) hX f_NS_43 0 rfl rfl d_NS_contractible_28 ?_
      refine g_iload_n (pc := 31) hX 1 d_NS_contractible_31 rfl rfl ?_
      refine g_iV (pc := 32) hX (c_RW_kind l E te tec tek _ (by omega)) gy_RW_kind gv_RW_kind w_273 rfl (by decide) (by decide) [1, 2, 3, 4] rfl rfl rfl rfl rfl _ rfl (Nat.le_of_ble_eq_true rfl) d_NS_contractible_32 (by decide) (by decide) ?_
      refine g_iconst (pc := 35) hX d_NS_contractible_35 ?_
      refine g_icmp_ne (pc := 36) (tgt := 59) hX d_NS_contractible_36 (by decide) (by omega) (by omega) (fun c_3 => ?_) (fun c_3 => ?_)
      · refine g_iconst (pc := 59) hX d_NS_contractible_59 ?_
        exact g_iret (pc := 60) hX hE d_NS_contractible_60 (by decide) (by decide) ⟨by rw [cbl, if_pos c_1, if_neg (by omega), if_neg (by omega)], rfl, rfl, rfl⟩
      · refine g_aload_n (pc := 39) hX 0 d_NS_contractible_39 rfl rfl ?_
        refine g_get (pc := 40) hX f_NS_43 0 rfl rfl d_NS_contractible_40 ?_
        refine g_iload_n (pc := 43) hX 1 d_NS_contractible_43 rfl rfl ?_
        refine g_iconst (pc := 44) hX d_NS_contractible_44 ?_
        refine g_iadd (pc := 45) hX d_NS_contractible_45 ?_
        refine g_iV (pc := 46) hX (c_RW_kind l E te tec tek _ (by omega)) gy_RW_kind gv_RW_kind w_273 rfl (by decide) (by decide) [1, 2, 3, 4] rfl rfl rfl rfl rfl _ rfl (Nat.le_of_ble_eq_true rfl) d_NS_contractible_46 (by decide) (by decide) ?_
        refine g_iconst (pc := 49) hX d_NS_contractible_49 ?_
        refine g_icmp_ne (pc := 50) (tgt := 59) hX d_NS_contractible_50 (by decide) (by omega) (by omega) (fun c_4 => ?_) (fun c_4 => ?_)
        · refine g_iconst (pc := 59) hX d_NS_contractible_59 ?_
          exact g_iret (pc := 60) hX hE d_NS_contractible_60 (by decide) (by decide) ⟨by rw [cbl, if_pos c_1, if_neg (by omega), if_neg (by omega)], rfl, rfl, rfl⟩
        · refine g_iload_n (pc := 53) hX 1 d_NS_contractible_53 rfl rfl ?_
          refine g_iconst (pc := 54) hX d_NS_contractible_54 ?_
          refine g_iadd (pc := 55) hX d_NS_contractible_55 ?_
          refine g_goto (pc := 56) (tgt := 60) hX d_NS_contractible_56 (by decide) ?_
          exact g_iret (pc := 60) hX hE d_NS_contractible_60 (by decide) (by decide) ⟨by rw [cbl, if_pos c_1, if_neg (by omega), if_pos (by omega)], rfl, rfl, rfl⟩
    · refine g_iload_n (pc := 25) hX 1 d_NS_contractible_25 rfl rfl ?_
      exact g_iret (pc := 26) hX hE d_NS_contractible_26 (by decide) (by decide) ⟨by rw [cbl, if_pos c_1, if_pos (by omega)], rfl, rfl, rfl⟩
  · refine g_iconst (pc := 11) hX d_NS_contractible_11 ?_
    exact g_iret (pc := 12) hX hE d_NS_contractible_12 (by decide) (by decide) ⟨by rw [cbl, if_neg c_1], rfl, rfl, rfl⟩

abbrev rm_NS_countUses : Room := { frames := 4, cells := 0, slots := 0, locals := 84 }
set_option maxHeartbeats 4000000 in
set_option maxRecDepth 100000 in
theorem c_NS_countUses (l : Launch) (E : gE) (x g kp pa la s n te sp : Nat) (tec : RowT) (tek : rowOK tec) (sc : ScT) (sk : scOK sc) (σ : Nat → Nat) (hm : mea tec σ) (hs : scFor sc tec) (b : Nat) (hb : b < rN tec ∧ pP (rF tec b)) : CtI l E y_NS_countUses b_NS_countUses 6 (some .int) rm_NS_countUses [.ref x, .int (iI (b : Int))] (nsO x g kp pa la s n te sp ++ rowW E te tec ++ scW E s sc) (uCnt (rF tec) (rG tec) b (b + 1 + σ (b + 1)) (σ (b + 1 + σ (b + 1)))) := by
  obtain ⟨⟨te1, te2, te3, te4⟩, tef, teg, teh⟩ := id tek
  obtain ⟨hb1, hb2⟩ := hb
  have ed := hs.d hb1
  obtain ⟨z1, z2, z3⟩ := hm.pt hb1 hb2
  obtain ⟨z4, z5⟩ := hm.en hb1
  have es : rS tec ((b : Int) + 1) = σ (b + 1) := hm.sz z1
  have eb := hm.sz hb1
  have dl : dep (rF tec) b ≤ b := env_le hm.1 hm.2.1 hb1
  have zs := hs.1
  refine g_start (by decide) (Nat.le_of_ble_eq_true rfl) (fun X hX hE hin => ?_)
  refine g_aload_n (pc := 0) hX 0 d_NS_countUses_0 rfl rfl ?_
  refine g_get (pc := 1) hX f_NS_32 0 rfl rfl d_NS_countUses_1 ?_
  refine g_iload_n (pc := 4) hX 1 d_NS_countUses_4 rfl rfl ?_
  refine g_iV (pc := 5) hX (c_SC_depth l E s sc sk _ (by omega)) gy_SC_depth gv_SC_depth w_319 rfl (by decide) (by decide) [5, 6, 7, 8] rfl rfl rfl rfl rfl _ rfl (Nat.le_of_ble_eq_true rfl) d_NS_countUses_5 (by decide) (by decide) ?_
  refine g_iconst (pc := 8) hX d_NS_countUses_8 ?_
  refine g_iadd (pc := 9) hX d_NS_countUses_9 ?_
  rw [ed]
  refine g_istore_n (pc := 10) hX 2 d_NS_countUses_10 rfl (by decide) ?_
  refine g_aload_n (pc := 11) hX 0 d_NS_countUses_11 rfl rfl ?_
  refine g_get (pc := 12) hX f_NS_43 0 rfl rfl d_NS_countUses_12 ?_
  refine g_iload_n (pc := 15) hX 1 d_NS_countUses_15 rfl rfl ?_
  refine g_iV (pc := 16) hX (c_RW_end l E te tec tek _ (by omega)) gy_RW_end gv_RW_end w_320 rfl (by decide) (by decide) [1, 2, 3, 4] rfl rfl rfl rfl rfl _ rfl (Nat.le_of_ble_eq_true rfl) d_NS_countUses_16 (by decide) (by decide) ?_
  refine g_st (.int (iI ((b + σ b : Nat) : Int)) :: []) (by rw [eb] <;> rfl) ?_
  refine g_istore_n (pc := 19) hX 3 d_NS_countUses_19 rfl (by decide) ?_
  refine g_iconst (pc := 20) hX d_NS_countUses_20 ?_
  refine g_istore (pc := 21) hX d_NS_countUses_21 (by decide) ?_
  refine g_aload_n (pc := 23) hX 0 d_NS_countUses_23 rfl rfl ?_
  refine g_get (pc := 24) hX f_NS_43 0 rfl rfl d_NS_countUses_24 ?_
  refine g_iload_n (pc := 27) hX 1 d_NS_countUses_27 rfl rfl ?_
  refine g_iV (pc := 28) hX (c_RW_second l E te tec tek _ (by omega) (by omega)) gy_RW_second gv_RW_second w_321 rfl (by decide) (by decide) [1, 2, 3, 4] rfl rfl rfl rfl rfl _ rfl (Nat.le_of_ble_eq_true rfl) d_NS_countUses_28 (by decide) (by decide) ?_
  refine g_st (.int (iI ((b + 1 + σ (b + 1) : Nat) : Int)) :: []) (by rw [show (b : Int) + 1 + rS tec ((b : Int) + 1) = (((b + 1 + σ (b + 1) : Nat)) : Int) by have := es; omega]) ?_
  refine g_istore (pc := 31) hX d_NS_countUses_31 (by decide) ?_
  have loop : ∀ (d : Nat) (m : Nat), σ (b + 1 + σ (b + 1)) < m + d → m ≤ σ (b + 1 + σ (b + 1)) → gW X (nsO x g kp pa la s n te sp ++ rowW E te tec ++ scW E s sc) 0 0 33 [(0, .ref x), (2, .int (iI ((dep (rF tec) b : Int) + 1))), (3, .int (iI ((b + σ b : Nat) : Int))), (4, .int (iI ((uCnt (rF tec) (rG tec) b (b + 1 + σ (b + 1)) m : Nat) : Int))), (5, .int (iI ((b + 1 + σ (b + 1) + m : Nat) : Int)))] [] := by
    intro d
    induction d with
    | zero => intro m hfu hj; omega
    | succ d ih =>
      intro m hfu hj
      refine g_iload (pc := 33) hX d_NS_countUses_33 rfl ?_
      refine g_iload_n (pc := 35) hX 3 d_NS_countUses_35 rfl rfl ?_
      refine g_icmp_ge (pc := 36) (tgt := 85) hX d_NS_countUses_36 (by decide) (by omega) (by omega) (fun c_1 => ?_) (fun c_1 => ?_)
      · refine g_iload (pc := 85) hX d_NS_countUses_85 rfl ?_
        exact g_iret (pc := 87) hX hE d_NS_countUses_87 (by decide) (by decide) ⟨by rw [show m = σ (b + 1 + σ (b + 1)) by omega], rfl, rfl, rfl⟩
      · obtain ⟨j, ej⟩ : ∃ j : Nat, j = b + 1 + σ (b + 1) + m := ⟨_, rfl⟩
        rw [← ej]
        have uc := uCnt_succ (rF tec) (rG tec) b (b + 1 + σ (b + 1)) m
        rw [← ej] at uc
        have q1 : rK tec (j : Int) = rF tec j := rK_t (by omega)
        have q3 : rB tec (j : Int) = rG tec j := rB_t (by omega)
        have q5 := hs.d (show j < rN tec by omega)
        have dj : dep (rF tec) j ≤ j := env_le hm.1 hm.2.1 (show j < rN tec by omega)
        have p1 := tef j
        have p3 := teg j
        refine g_aload_n (pc := 39) hX 0 d_NS_countUses_39 rfl rfl ?_
        refine g_get (pc := 40) hX f_NS_43 0 rfl rfl d_NS_countUses_40 ?_
        refine g_iload (pc := 43) hX d_NS_countUses_43 rfl ?_
        refine g_iV (pc := 45) hX (c_RW_kind l E te tec tek _ (by omega)) gy_RW_kind gv_RW_kind w_273 rfl (by decide) (by decide) [1, 2, 3, 4] rfl rfl rfl rfl rfl _ rfl (Nat.le_of_ble_eq_true rfl) d_NS_countUses_45 (by decide) (by decide) ?_
        rw [q1]
        refine g_if_ne (pc := 48) (tgt := 79) hX d_NS_countUses_48 (by decide) (by omega) (fun c_2 => ?_) (fun c_2 => ?_)
        · rw [if_neg (fun q => by have := q.1; have := q.2; omega)] at uc
          rw [show ((uCnt (rF tec) (rG tec) b (b + 1 + σ (b + 1)) m : Nat) : Int) = ((uCnt (rF tec) (rG tec) b (b + 1 + σ (b + 1)) (m + 1) : Nat) : Int) by omega, ej]
          refine g_iinc (pc := 79) hX d_NS_countUses_79 (by decide) rfl ?_
          refine g_goto (pc := 82) (tgt := 33) hX d_NS_countUses_82 (by decide) ?_
          refine g_lv [(0, .ref x), (2, .int (iI ((dep (rF tec) b : Int) + 1))), (3, .int (iI ((b + σ b : Nat) : Int))), (4, .int (iI ((uCnt (rF tec) (rG tec) b (b + 1 + σ (b + 1)) (m + 1) : Nat) : Int))), (5, .int (iI ((b + 1 + σ (b + 1) + (m + 1) : Nat) : Int)))] ⟨rfl, rfl, rfl, rfl, rfl, trivial⟩ ?_
          exact ih (m + 1) (by omega) (by omega)
        · refine g_aload_n (pc := 51) hX 0 d_NS_countUses_51 rfl rfl ?_
          refine g_get (pc := 52) hX f_NS_43 0 rfl rfl d_NS_countUses_52 ?_
          refine g_iload (pc := 55) hX d_NS_countUses_55 rfl ?_
          refine g_lV (pc := 57) hX (c_RW_beside l E te tec tek _ (by omega)) gy_RW_beside gv_RW_beside w_274 rfl (by decide) (by decide) [1, 2, 3, 4] rfl rfl rfl rfl rfl _ rfl (Nat.le_of_ble_eq_true rfl) d_NS_countUses_57 (by decide) (by decide) ?_
          rw [q3]
          refine g_aload_n (pc := 60) hX 0 d_NS_countUses_60 rfl rfl ?_
          refine g_get (pc := 61) hX f_NS_32 0 rfl rfl d_NS_countUses_61 ?_
          refine g_iload (pc := 64) hX d_NS_countUses_64 rfl ?_
          refine g_iV (pc := 66) hX (c_SC_depth l E s sc sk _ (by omega)) gy_SC_depth gv_SC_depth w_319 rfl (by decide) (by decide) [5, 6, 7, 8] rfl rfl rfl rfl rfl _ rfl (Nat.le_of_ble_eq_true rfl) d_NS_countUses_66 (by decide) (by decide) ?_
          rw [q5]
          refine g_iload_n (pc := 69) hX 2 d_NS_countUses_69 rfl rfl ?_
          refine g_isub (pc := 70) hX d_NS_countUses_70 ?_
          refine g_i2l (pc := 71) hX d_NS_countUses_71 (by omega) ?_
          refine g_lcmp_ne (pc := 72) (tgt := 79) hX d_NS_countUses_72 d_NS_countUses_73 (by decide) (by omega) (by omega) (fun c_3 => ?_) (fun c_3 => ?_)
          · rw [if_neg (fun q => by have := q.1; have := q.2; omega)] at uc
            rw [show ((uCnt (rF tec) (rG tec) b (b + 1 + σ (b + 1)) m : Nat) : Int) = ((uCnt (rF tec) (rG tec) b (b + 1 + σ (b + 1)) (m + 1) : Nat) : Int) by omega, ej]
            refine g_iinc (pc := 79) hX d_NS_countUses_79 (by decide) rfl ?_
            refine g_goto (pc := 82) (tgt := 33) hX d_NS_countUses_82 (by decide) ?_
            refine g_lv [(0, .ref x), (2, .int (iI ((dep (rF tec) b : Int) + 1))), (3, .int (iI ((b + σ b : Nat) : Int))), (4, .int (iI ((uCnt (rF tec) (rG tec) b (b + 1 + σ (b + 1)) (m + 1) : Nat) : Int))), (5, .int (iI ((b + 1 + σ (b + 1) + (m + 1) : Nat) : Int)))] ⟨rfl, rfl, rfl, rfl, rfl, trivial⟩ ?_
            exact ih (m + 1) (by omega) (by omega)
          · refine g_iinc (pc := 76) hX d_NS_countUses_76 (by decide) rfl ?_
            rw [if_pos ⟨by omega, by omega⟩] at uc
            rw [show ((uCnt (rF tec) (rG tec) b (b + 1 + σ (b + 1)) m : Nat) : Int) + 1 = ((uCnt (rF tec) (rG tec) b (b + 1 + σ (b + 1)) (m + 1) : Nat) : Int) by omega, ej]
            refine g_iinc (pc := 79) hX d_NS_countUses_79 (by decide) rfl ?_
            refine g_goto (pc := 82) (tgt := 33) hX d_NS_countUses_82 (by decide) ?_
            refine g_lv [(0, .ref x), (2, .int (iI ((dep (rF tec) b : Int) + 1))), (3, .int (iI ((b + σ b : Nat) : Int))), (4, .int (iI ((uCnt (rF tec) (rG tec) b (b + 1 + σ (b + 1)) (m + 1) : Nat) : Int))), (5, .int (iI ((b + 1 + σ (b + 1) + (m + 1) : Nat) : Int)))] ⟨rfl, rfl, rfl, rfl, rfl, trivial⟩ ?_
            exact ih (m + 1) (by omega) (by omega)
  refine g_lv [(0, .ref x), (2, .int (iI ((dep (rF tec) b : Int) + 1))), (3, .int (iI ((b + σ b : Nat) : Int))), (4, .int (iI ((uCnt (rF tec) (rG tec) b (b + 1 + σ (b + 1)) 0 : Nat) : Int))), (5, .int (iI ((b + 1 + σ (b + 1) + 0 : Nat) : Int)))] ⟨rfl, rfl, rfl, rfl, rfl, trivial⟩ ?_
  exact loop (σ (b + 1 + σ (b + 1)) + 1) 0 (by omega) (by omega)
  
