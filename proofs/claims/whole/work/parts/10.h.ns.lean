abbrev rm_NS_contract : Room := { frames := 6, cells := 60000, slots := 360000, locals := 150 }
set_option maxHeartbeats 4000000 in
set_option maxRecDepth 100000 in
theorem c_NS_contract (l : Launch) (E : gE) (x g kp pa la s n te sp : Nat) (tec : RowT) (tek : rowOK tec) (sc : ScT) (sk : scOK sc) (spc : RowT) (spk : rowOK spc) (σ : Nat → Nat) (hte : rN tec = 0 ∨ mea tec σ) (hb : tB tec) (k : Int) (hk : gin k) : Ct l E y_NS_contract b_NS_contract 6 (some .int) rm_NS_contract [.ref x, .int (iI k)] (nsO x g kp pa la s n te sp ++ rowW E te tec ++ scW E s sc ++ rowW E sp spc) (fun vv ww dc ds => (cbl tec k = -1 ∧ vv = some (.int (iI (-1))) ∧ ww = nsO x g kp pa la s n te sp ++ rowW E te tec ++ scW E s sc ++ rowW E sp spc ∧ dc = 0 ∧ ds = 0) ∨ (∃ (kn b v : Nat) (ς : ScT), k = kn ∧ cbv (rF tec) σ (rN tec) kn b v ∧ 3000 < (cOut (rF tec) (rG tec) σ (rN tec) kn b v).length ∧ vv = some (.int (iI (-2))) ∧ ww = nsO x g kp pa la s n te sp ++ rowW E te tec ++ scW E s ς ++ rowW E sp spc ∧ scOK ς ∧ sGrow sc ς dc ds) ∨ (∃ (kn b v : Nat) (ς : ScT) (ρ0 ρ : RowT), k = kn ∧ cbv (rF tec) σ (rN tec) kn b v ∧ (cOut (rF tec) (rG tec) σ (rN tec) kn b v).length ≤ 3000 ∧ vv = some (.int (iI (rN ρ))) ∧ ww = nsO x g kp pa la s n sp te ++ rowW E te tec ++ scW E s ς ++ rowW E sp ρ ∧ scOK ς ∧ rowOK ρ ∧ rL ρ0 = cOut (rF tec) (rG tec) σ (rN tec) kn b v ∧ newT ρ ρ0 ∧ dc ≤ (sC ς - sC sc) + (rC ρ - rC spc) ∧ ds ≤ 6 * ((sC ς - sC sc) + (rC ρ - rC spc)) ∧ sC sc ≤ sC ς ∧ rC spc ≤ rC ρ)) := by
  obtain ⟨⟨te1, te2, te3, te4⟩, tef, teg, teh⟩ := id tek
  obtain ⟨⟨sp1, sp2, sp3, sp4⟩, spf, spg, sph⟩ := id spk
  have k1 : gin (cbl tec k) := by unfold cbl; split <;> (try split) <;> (try split) <;> omega
  refine g_start (by decide) (Nat.le_of_ble_eq_true rfl) (fun X hX hE hin => ?_)
  refine g_aload_n (pc := 0) hX 0 d_NS_contract_0 rfl rfl ?_
  refine g_iload_n (pc := 1) hX 1 d_NS_contract_1 rfl rfl ?_
  refine g_iV (pc := 2) hX (c_NS_contractible l E x g kp pa la s n te sp tec tek _ (by omega)) gy_NS_contractible gv_NS_contractible w_326 rfl (by decide) (by decide) [0, 1, 2, 3, 4] rfl rfl rfl rfl rfl _ rfl (Nat.le_of_ble_eq_true rfl) d_NS_contract_2 (show _ + 0 ≤ 60000 by omega) (show _ + 0 ≤ 360000 by omega) ?_
  refine g_istore_n (pc := 5) hX 2 d_NS_contract_5 rfl (by decide) ?_
  refine g_iload_n (pc := 6) hX 2 d_NS_contract_6 rfl rfl ?_
  refine g_iconst (pc := 7) hX d_NS_contract_7 ?_
  refine g_icmp_ne (pc := 8) (tgt := 13) hX d_NS_contract_8 (by decide) (by omega) (by omega) (fun c_1 => ?_) (fun c_1 => ?_)
  · obtain ⟨kn, b, v, rfl, ecb, hcbv, hb1, hb0, v1, hm⟩ := cbl_of hte c_1
    rw [ecb]
    have hcbv2 := hcbv
    obtain ⟨hk1, hcc⟩ := hcbv2
    have hb2 : pP (rF tec b) := by omega
    obtain ⟨z1, z2, z3⟩ := hm.pt hb1 hb2
    obtain ⟨z4, z5⟩ := hm.en hb1
    obtain ⟨x4, x5⟩ := hm.en hk1
    obtain ⟨y4, y5⟩ := hm.en v1
    have es : rS tec ((b : Int) + 1) = σ (b + 1) := hm.sz z1
    have eb := hm.sz hb1
    have xs := hm.sz hk1
    have ev := hm.sz v1
    refine g_iload_n (pc := 13) hX 2 d_NS_contract_13 rfl rfl ?_
    refine g_iload_n (pc := 14) hX 1 d_NS_contract_14 rfl rfl ?_
    refine g_icmp_ne (pc := 15) (tgt := 24) hX d_NS_contract_15 (by decide) (by omega) (by omega) (fun c_2 => ?_) (fun c_2 => ?_)
    · obtain ⟨w1, w2, w3⟩ := hm.pt hk1 (by omega)
      have ek : rS tec ((kn : Int) + 1) = σ (kn + 1) := hm.sz w1
      refine g_aload_n (pc := 24) hX 0 d_NS_contract_24 rfl rfl ?_
      refine g_get (pc := 25) hX f_NS_43 0 rfl rfl d_NS_contract_25 ?_
      refine g_iload_n (pc := 28) hX 1 d_NS_contract_28 rfl rfl ?_
      refine g_iV (pc := 29) hX (c_RW_second l E te tec tek _ (by omega) (by omega)) gy_RW_second gv_RW_second w_321 rfl (by decide) (by decide) [1, 2, 3, 4] rfl rfl rfl rfl rfl _ rfl (Nat.le_of_ble_eq_true rfl) d_NS_contract_29 (show _ + 0 ≤ 60000 by omega) (show _ + 0 ≤ 360000 by omega) ?_
      refine g_st (.int (iI (v : Int)) :: []) (by rw [show (v : Int) = (kn : Int) + 1 + rS tec ((kn : Int) + 1) by omega]) ?_
      refine g_istore_n (pc := 32) hX 3 d_NS_contract_32 rfl (by decide) ?_
      refine g_aload_n (pc := 33) hX 0 d_NS_contract_33 rfl rfl ?_
      refine g_get (pc := 34) hX f_NS_32 0 rfl rfl d_NS_contract_34 ?_
      refine g_aload_n (pc := 37) hX 0 d_NS_contract_37 rfl rfl ?_
      refine g_get (pc := 38) hX f_NS_43 0 rfl rfl d_NS_contract_38 ?_
      refine g_callV (pc := 41) hX (c_SC_read l E s sc sk te tec tek σ hm.1 hm.2.1 hm.2.2.1 hm.2.2.2) gy_SC_read gv_SC_read w_236 rfl (by decide) (by decide) [5, 6, 7, 8, 1, 2, 3, 4] rfl rfl rfl rfl rfl _ rfl (Nat.le_of_ble_eq_true rfl) d_NS_contract_41 (show _ + 6000 ≤ 60000 by omega) (show _ + 36000 ≤ 360000 by omega) (fun _ _ _ _ h => by obtain ⟨_, _, h2, _⟩ := h; rw [h2]; exact Nat.le_of_ble_eq_true rfl) (fun v w dc_3 ds_3 hp => ?_)
      obtain ⟨s_3, rfl, rfl, sk_3, f_3⟩ := hp
      refine g_wsP (nsO x g kp pa la s n te sp ++ rowW E te tec ++ scW E s s_3 ++ rowW E sp spc) rfl rfl ?_
      obtain ⟨b1, b2, b3⟩ := f_3
      have hs : scFor s_3 tec := ⟨b1, b2⟩
      obtain ⟨b4, b5, b6⟩ := id b3
      obtain ⟨⟨m1, m2, m3, m4⟩, -⟩ := id sk_3
      refine g_aload_n (pc := 44) hX 0 d_NS_contract_44 rfl rfl ?_
      refine g_get (pc := 45) hX f_NS_43 0 rfl rfl d_NS_contract_45 ?_
      refine g_iV (pc := 48) hX (c_RW_count l E te tec tek) gy_RW_count gv_RW_count w_156 rfl (by decide) (by decide) [1, 2, 3, 4] rfl rfl rfl rfl rfl _ rfl (Nat.le_of_ble_eq_true rfl) d_NS_contract_48 (show _ + 0 ≤ 60000 by omega) (show _ + 0 ≤ 360000 by omega) ?_
      refine g_aload_n (pc := 51) hX 0 d_NS_contract_51 rfl rfl ?_
      refine g_get (pc := 52) hX f_NS_43 0 rfl rfl d_NS_contract_52 ?_
      refine g_iload_n (pc := 55) hX 1 d_NS_contract_55 rfl rfl ?_
      refine g_iV (pc := 56) hX (c_RW_size l E te tec tek _ (by omega)) gy_RW_size gv_RW_size w_310 rfl (by decide) (by decide) [1, 2, 3, 4] rfl rfl rfl rfl rfl _ rfl (Nat.le_of_ble_eq_true rfl) d_NS_contract_56 (show _ + 0 ≤ 60000 by omega) (show _ + 0 ≤ 360000 by omega) ?_
      refine g_isub (pc := 59) hX d_NS_contract_59 ?_
      refine g_istore (pc := 60) hX d_NS_contract_60 (by decide) ?_
      refine g_aload_n (pc := 62) hX 0 d_NS_contract_62 rfl rfl ?_
      refine g_get (pc := 63) hX f_NS_43 0 rfl rfl d_NS_contract_63 ?_
      refine g_iload_n (pc := 66) hX 2 d_NS_contract_66 rfl rfl ?_
      refine g_iV (pc := 67) hX (c_RW_end l E te tec tek _ (by omega)) gy_RW_end gv_RW_end w_320 rfl (by decide) (by decide) [1, 2, 3, 4] rfl rfl rfl rfl rfl _ rfl (Nat.le_of_ble_eq_true rfl) d_NS_contract_67 (show _ + 0 ≤ 60000 by omega) (show _ + 0 ≤ 360000 by omega) ?_
      refine g_aload_n (pc := 70) hX 0 d_NS_contract_70 rfl rfl ?_
      refine g_get (pc := 71) hX f_NS_43 0 rfl rfl d_NS_contract_71 ?_
      refine g_iload_n (pc := 74) hX 2 d_NS_contract_74 rfl rfl ?_
      refine g_iV (pc := 75) hX (c_RW_second l E te tec tek _ (by omega) (by omega)) gy_RW_second gv_RW_second w_321 rfl (by decide) (by decide) [1, 2, 3, 4] rfl rfl rfl rfl rfl _ rfl (Nat.le_of_ble_eq_true rfl) d_NS_contract_75 (show _ + 0 ≤ 60000 by omega) (show _ + 0 ≤ 360000 by omega) ?_
      refine g_isub (pc := 78) hX d_NS_contract_78 ?_
      refine g_istore (pc := 79) hX d_NS_contract_79 (by decide) ?_
      refine g_iload (pc := 81) hX d_NS_contract_81 rfl ?_
      refine g_iload (pc := 83) hX d_NS_contract_83 rfl ?_
      refine g_iadd (pc := 85) hX d_NS_contract_85 ?_
      refine g_aload_n (pc := 86) hX 0 d_NS_contract_86 rfl rfl ?_
      refine g_iload_n (pc := 87) hX 2 d_NS_contract_87 rfl rfl ?_
      refine g_iV (pc := 88) hX (c_NS_countUses l E x g kp pa la s n te sp tec tek s_3 sk_3 σ hm hs b ⟨hb1, hb2⟩) gy_NS_countUses gv_NS_countUses w_315 rfl (by decide) (by decide) [0, 1, 2, 3, 4, 5, 6, 7, 8] rfl rfl rfl rfl rfl _ rfl (Nat.le_of_ble_eq_true rfl) d_NS_contract_88 (show _ + 0 ≤ 60000 by omega) (show _ + 0 ≤ 360000 by omega) ?_
      refine g_aload_n (pc := 91) hX 0 d_NS_contract_91 rfl rfl ?_
      refine g_get (pc := 92) hX f_NS_43 0 rfl rfl d_NS_contract_92 ?_
      refine g_iload_n (pc := 95) hX 3 d_NS_contract_95 rfl rfl ?_
      refine g_iV (pc := 96) hX (c_RW_size l E te tec tek _ (by omega)) gy_RW_size gv_RW_size w_310 rfl (by decide) (by decide) [1, 2, 3, 4] rfl rfl rfl rfl rfl _ rfl (Nat.le_of_ble_eq_true rfl) d_NS_contract_96 (show _ + 0 ≤ 60000 by omega) (show _ + 0 ≤ 360000 by omega) ?_
      refine g_iconst (pc := 99) hX d_NS_contract_99 ?_
      refine g_isub (pc := 100) hX d_NS_contract_100 ?_
      refine g_imul (pc := 101) hX d_NS_contract_101 ?_
      refine g_iadd (pc := 102) hX d_NS_contract_102 ?_
      have hcl := cOut_len (f := rF tec) (g := rG tec) (σ := σ) (n := rN tec) (k := kn) (b := b) (v := v) y4 x5
      have hcu := uCnt_le (rF tec) (rG tec) b (b + 1 + σ (b + 1)) (σ (b + 1 + σ (b + 1)))
      have hmb := mulb (a := (uCnt (rF tec) (rG tec) b (b + 1 + σ (b + 1)) (σ (b + 1 + σ (b + 1))) : Nat)) (b := σ v) (by omega) y4 (by omega)
      have htot : (rN tec : Int) - rS tec (kn : Int) + ((b : Int) + rS tec (b : Int) - ((b : Int) + 1 + rS tec ((b : Int) + 1))) + ((uCnt (rF tec) (rG tec) b (b + 1 + σ (b + 1)) (σ (b + 1 + σ (b + 1))) : Nat) : Int) * (rS tec (v : Int) - 1) = (((cOut (rF tec) (rG tec) σ (rN tec) kn b v).length : Nat) : Int) := by
        rw [xs, es, eb, ev, hcl]; omega
      have hcl2 : (cOut (rF tec) (rG tec) σ (rN tec) kn b v).length = kn + (bL (rF tec) (rG tec) b v (σ v) (b + 1 + σ (b + 1)) (σ (b + 1 + σ (b + 1)))).length + (rN tec - (kn + σ kn)) := by unfold cOut; rw [List.length_append, List.length_append, seg_len, seg_len]
      rw [htot]
      refine g_sipush (pc := 103) hX 3000 d_NS_contract_103 (by decide) ?_
      refine g_icmp_le (pc := 106) (tgt := 112) hX d_NS_contract_106 (by decide) (by omega) (by omega) (fun c_4 => ?_) (fun c_4 => ?_)
      · refine g_aload_n (pc := 112) hX 0 d_NS_contract_112 rfl rfl ?_
        refine g_get (pc := 113) hX f_NS_46 0 rfl rfl d_NS_contract_113 ?_
        refine g_callV (pc := 116) hX (c_RW_clear l E sp spc spk) gy_RW_clear gv_RW_clear w_202 rfl (by decide) (by decide) [9, 10, 11, 12] rfl rfl rfl rfl rfl _ rfl (Nat.le_of_ble_eq_true rfl) d_NS_contract_116 (show _ + 0 ≤ 60000 by omega) (show _ + 0 ≤ 360000 by omega) (fun _ _ _ _ h => by obtain ⟨_, _, h2, _⟩ := h; rw [h2]; exact Nat.le_of_ble_eq_true rfl) (fun v w dc_5 ds_5 hp => ?_)
        obtain ⟨sp_5, rfl, rfl, spk_5, f_5_1, f_5_2, rfl, rfl⟩ := hp
        refine g_wsP (nsO x g kp pa la s n te sp ++ rowW E te tec ++ scW E s s_3 ++ rowW E sp sp_5) rfl rfl ?_
        obtain ⟨⟨u1, u2, u3, u4⟩, -⟩ := id spk_5
        refine g_aload_n (pc := 119) hX 0 d_NS_contract_119 rfl rfl ?_
        refine g_iconst (pc := 120) hX d_NS_contract_120 ?_
        refine g_iload_n (pc := 121) hX 1 d_NS_contract_121 rfl rfl ?_
        refine g_st (.int (iI (kn : Int)) :: .int (iI ((0 : Nat) : Int)) :: .ref x :: []) rfl ?_
        refine g_callV (pc := 122) hX (c_NS_copy l E x g kp pa la s n te sp tec tek sp_5 spk_5 0 kn ⟨by omega, by omega, by omega⟩) gy_NS_copy gv_NS_copy w_330 rfl (by decide) (by decide) [0, 1, 2, 3, 4, 9, 10, 11, 12] rfl rfl rfl rfl rfl _ rfl (Nat.le_of_ble_eq_true rfl) d_NS_contract_122 (show _ + 12000 ≤ 60000 by omega) (show _ + 72000 ≤ 360000 by omega) (fun _ _ _ _ h => by obtain ⟨_, _, h2, _⟩ := h; rw [h2]; exact Nat.le_of_ble_eq_true rfl) (fun v w dc_6 ds_6 hp => ?_)
        obtain ⟨sp_6, rfl, rfl, spk_6, f_6⟩ := hp
        refine g_wsP (nsO x g kp pa la s n te sp ++ rowW E te tec ++ scW E s s_3 ++ rowW E sp sp_6) rfl rfl ?_
        obtain ⟨d1, d2, d3, d4⟩ := f_6
        have n1 := congrArg List.length d1
        rw [List.length_append, Lr_len, Lr_len, seg_len] at n1
        obtain ⟨⟨t1, t2, t3, t4⟩, -⟩ := id spk_6
        refine g_aload_n (pc := 125) hX 0 d_NS_contract_125 rfl rfl ?_
        refine g_iload_n (pc := 126) hX 2 d_NS_contract_126 rfl rfl ?_
        refine g_iload_n (pc := 127) hX 3 d_NS_contract_127 rfl rfl ?_
        refine g_callV (pc := 128) hX (c_NS_copyLastPart l E x g kp pa la s n te sp tec tek s_3 sk_3 sp_6 spk_6 σ hm hs hb b v ⟨hb1, hb2, v1, by omega⟩) gy_NS_copyLastPart gv_NS_copyLastPart w_334 rfl (by decide) (by decide) [0, 1, 2, 3, 4, 5, 6, 7, 8, 9, 10, 11, 12] rfl rfl rfl rfl rfl _ rfl (Nat.le_of_ble_eq_true rfl) d_NS_contract_128 (show _ + 18000 ≤ 60000 by omega) (show _ + 108000 ≤ 360000 by omega) (fun _ _ _ _ h => by obtain ⟨_, _, h2, _⟩ := h; rw [h2]; exact Nat.le_of_ble_eq_true rfl) (fun v w dc_7 ds_7 hp => ?_)
        obtain ⟨sp_7, rfl, rfl, spk_7, f_7⟩ := hp
        refine g_wsP (nsO x g kp pa la s n te sp ++ rowW E te tec ++ scW E s s_3 ++ rowW E sp sp_7) rfl rfl ?_
        obtain ⟨e1, e2, e3, e4⟩ := f_7
        have n2 := congrArg List.length e1
        rw [List.length_append, Lr_len, Lr_len] at n2
        obtain ⟨⟨q1, q2, q3, q4⟩, -⟩ := id spk_7
        refine g_aload_n (pc := 131) hX 0 d_NS_contract_131 rfl rfl ?_
        refine g_aload_n (pc := 132) hX 0 d_NS_contract_132 rfl rfl ?_
        refine g_get (pc := 133) hX f_NS_43 0 rfl rfl d_NS_contract_133 ?_
        refine g_iload_n (pc := 136) hX 1 d_NS_contract_136 rfl rfl ?_
        refine g_iV (pc := 137) hX (c_RW_end l E te tec tek _ (by omega)) gy_RW_end gv_RW_end w_320 rfl (by decide) (by decide) [1, 2, 3, 4] rfl rfl rfl rfl rfl _ rfl (Nat.le_of_ble_eq_true rfl) d_NS_contract_137 (show _ + 0 ≤ 60000 by omega) (show _ + 0 ≤ 360000 by omega) ?_
        refine g_aload_n (pc := 140) hX 0 d_NS_contract_140 rfl rfl ?_
        refine g_get (pc := 141) hX f_NS_43 0 rfl rfl d_NS_contract_141 ?_
        refine g_iV (pc := 144) hX (c_RW_count l E te tec tek) gy_RW_count gv_RW_count w_156 rfl (by decide) (by decide) [1, 2, 3, 4] rfl rfl rfl rfl rfl _ rfl (Nat.le_of_ble_eq_true rfl) d_NS_contract_144 (show _ + 0 ≤ 60000 by omega) (show _ + 0 ≤ 360000 by omega) ?_
        refine g_st (.int (iI (rN tec : Int)) :: .int (iI ((kn + σ kn : Nat) : Int)) :: .ref x :: []) (by rw [xs] <;> rfl) ?_
        refine g_callV (pc := 147) hX (c_NS_copy l E x g kp pa la s n te sp tec tek sp_7 spk_7 (kn + σ kn) (rN tec) ⟨by omega, by omega, by omega⟩) gy_NS_copy gv_NS_copy w_330 rfl (by decide) (by decide) [0, 1, 2, 3, 4, 9, 10, 11, 12] rfl rfl rfl rfl rfl _ rfl (Nat.le_of_ble_eq_true rfl) d_NS_contract_147 (show _ + 12000 ≤ 60000 by omega) (show _ + 72000 ≤ 360000 by omega) (fun _ _ _ _ h => by obtain ⟨_, _, h2, _⟩ := h; rw [h2]; exact Nat.le_of_ble_eq_true rfl) (fun v w dc_8 ds_8 hp => ?_)
        obtain ⟨sp_8, rfl, rfl, spk_8, f_8⟩ := hp
        refine g_wsP (nsO x g kp pa la s n te sp ++ rowW E te tec ++ scW E s s_3 ++ rowW E sp sp_8) rfl rfl ?_
        obtain ⟨i1, i2, i3, i4⟩ := f_8
        obtain ⟨⟨o1, o2, o3, o4⟩, -⟩ := id spk_8
        have hfin : rL sp_8 = cOut (rF tec) (rG tec) σ (rN tec) kn b v := by
          rw [i1, e1, d1, show rL sp_5 = [] by show Lr (rN sp_5) _ _ = []; rw [f_5_1]; rfl]
          simp only [List.nil_append]
          rfl
        refine g_aload_n (pc := 150) hX 0 d_NS_contract_150 rfl rfl ?_
        refine g_callV (pc := 151) hX (c_NS_takeSpare l E x g kp pa la s n te sp tec tek sp_8 spk_8) gy_NS_takeSpare gv_NS_takeSpare w_296 rfl (by decide) (by decide) [0, 1, 2, 3, 4, 9, 10, 11, 12] rfl rfl rfl rfl rfl _ rfl (Nat.le_of_ble_eq_true rfl) d_NS_contract_151 (show _ + 0 ≤ 60000 by omega) (show _ + 0 ≤ 360000 by omega) (fun _ _ _ _ h => by obtain ⟨_, _, h2, _⟩ := h; rw [h2]; exact Nat.le_of_ble_eq_true rfl) (fun v w dc_9 ds_9 hp => ?_)
        obtain ⟨sp_9, rfl, rfl, spk_9, f_9_1, rfl, rfl⟩ := hp
        refine g_wsP (nsO x g kp pa la s n sp te ++ rowW E te tec ++ scW E s s_3 ++ rowW E sp sp_9) rfl rfl ?_
        have nt := f_9_1
        obtain ⟨j1, j2, j3, j4, j5⟩ := id nt
        refine g_aload_n (pc := 154) hX 0 d_NS_contract_154 rfl rfl ?_
        refine g_get (pc := 155) hX f_NS_43 0 rfl rfl d_NS_contract_155 ?_
        refine g_iV (pc := 158) hX (c_RW_count l E sp sp_9 spk_9) gy_RW_count gv_RW_count w_156 rfl (by decide) (by decide) [9, 10, 11, 12] rfl rfl rfl rfl rfl _ rfl (Nat.le_of_ble_eq_true rfl) d_NS_contract_158 (show _ + 0 ≤ 60000 by omega) (show _ + 0 ≤ 360000 by omega) ?_
        exact g_iret (pc := 161) hX hE d_NS_contract_161 (show _ ≤ 60000 by omega) (show _ ≤ 360000 by omega) (Or.inr (Or.inr ⟨kn, b, v, s_3, sp_8, sp_9, rfl, hcbv, by omega, rfl, rfl, sk_3, spk_9, hfin, nt, by omega, by omega, by omega, by omega⟩))
      · refine g_bipush (pc := 109) hX (-2) d_NS_contract_109 (by decide) ?_
        exact g_iret (pc := 111) hX hE d_NS_contract_111 (show _ ≤ 60000 by omega) (show _ ≤ 360000 by omega) (Or.inr (Or.inl ⟨kn, b, v, s_3, rfl, hcbv, by omega, rfl, rfl, sk_3, by rw [Nat.zero_add, Nat.zero_add]; exact b3⟩))
    · refine g_iload_n (pc := 18) hX 1 d_NS_contract_18 rfl rfl ?_
      refine g_iconst (pc := 19) hX d_NS_contract_19 ?_
      refine g_iadd (pc := 20) hX d_NS_contract_20 ?_
      refine g_goto (pc := 21) (tgt := 32) hX d_NS_contract_21 (by decide) ?_
      refine g_st (.int (iI (v : Int)) :: []) (by rw [show (v : Int) = (kn : Int) + 1 by omega]) ?_
      refine g_istore_n (pc := 32) hX 3 d_NS_contract_32 rfl (by decide) ?_
      refine g_aload_n (pc := 33) hX 0 d_NS_contract_33 rfl rfl ?_
      refine g_get (pc := 34) hX f_NS_32 0 rfl rfl d_NS_contract_34 ?_
      refine g_aload_n (pc := 37) hX 0 d_NS_contract_37 rfl rfl ?_
      refine g_get (pc := 38) hX f_NS_43 0 rfl rfl d_NS_contract_38 ?_
      refine g_callV (pc := 41) hX (c_SC_read l E s sc sk te tec tek σ hm.1 hm.2.1 hm.2.2.1 hm.2.2.2) gy_SC_read gv_SC_read w_236 rfl (by decide) (by decide) [5, 6, 7, 8, 1, 2, 3, 4] rfl rfl rfl rfl rfl _ rfl (Nat.le_of_ble_eq_true rfl) d_NS_contract_41 (show _ + 6000 ≤ 60000 by omega) (show _ + 36000 ≤ 360000 by omega) (fun _ _ _ _ h => by obtain ⟨_, _, h2, _⟩ := h; rw [h2]; exact Nat.le_of_ble_eq_true rfl) (fun v w dc_10 ds_10 hp => ?_)
      obtain ⟨s_10, rfl, rfl, sk_10, f_10⟩ := hp
      refine g_wsP (nsO x g kp pa la s n te sp ++ rowW E te tec ++ scW E s s_10 ++ rowW E sp spc) rfl rfl ?_
      obtain ⟨b1, b2, b3⟩ := f_10
      have hs : scFor s_10 tec := ⟨b1, b2⟩
      obtain ⟨b4, b5, b6⟩ := id b3
      obtain ⟨⟨m1, m2, m3, m4⟩, -⟩ := id sk_10
      refine g_aload_n (pc := 44) hX 0 d_NS_contract_44 rfl rfl ?_
      refine g_get (pc := 45) hX f_NS_43 0 rfl rfl d_NS_contract_45 ?_
      refine g_iV (pc := 48) hX (c_RW_count l E te tec tek) gy_RW_count gv_RW_count w_156 rfl (by decide) (by decide) [1, 2, 3, 4] rfl rfl rfl rfl rfl _ rfl (Nat.le_of_ble_eq_true rfl) d_NS_contract_48 (show _ + 0 ≤ 60000 by omega) (show _ + 0 ≤ 360000 by omega) ?_
      refine g_aload_n (pc := 51) hX 0 d_NS_contract_51 rfl rfl ?_
      refine g_get (pc := 52) hX f_NS_43 0 rfl rfl d_NS_contract_52 ?_
      refine g_iload_n (pc := 55) hX 1 d_NS_contract_55 rfl rfl ?_
      refine g_iV (pc := 56) hX (c_RW_size l E te tec tek _ (by omega)) gy_RW_size gv_RW_size w_310 rfl (by decide) (by decide) [1, 2, 3, 4] rfl rfl rfl rfl rfl _ rfl (Nat.le_of_ble_eq_true rfl) d_NS_contract_56 (show _ + 0 ≤ 60000 by omega) (show _ + 0 ≤ 360000 by omega) ?_
      refine g_isub (pc := 59) hX d_NS_contract_59 ?_
      refine g_istore (pc := 60) hX d_NS_contract_60 (by decide) ?_
      refine g_aload_n (pc := 62) hX 0 d_NS_contract_62 rfl rfl ?_
      refine g_get (pc := 63) hX f_NS_43 0 rfl rfl d_NS_contract_63 ?_
      refine g_iload_n (pc := 66) hX 2 d_NS_contract_66 rfl rfl ?_
      refine g_iV (pc := 67) hX (c_RW_end l E te tec tek _ (by omega)) gy_RW_end gv_RW_end w_320 rfl (by decide) (by decide) [1, 2, 3, 4] rfl rfl rfl rfl rfl _ rfl (Nat.le_of_ble_eq_true rfl) d_NS_contract_67 (show _ + 0 ≤ 60000 by omega) (show _ + 0 ≤ 360000 by omega) ?_
      refine g_aload_n (pc := 70) hX 0 d_NS_contract_70 rfl rfl ?_
      refine g_get (pc := 71) hX f_NS_43 0 rfl rfl d_NS_contract_71 ?_
      refine g_iload_n (pc := 74) hX 2 d_NS_contract_74 rfl rfl ?_
      refine g_iV (pc := 75) hX (c_RW_second l E te tec tek _ (by omega) (by omega)) gy_RW_second gv_RW_second w_321 rfl (by decide) (by decide) [1, 2, 3, 4] rfl rfl rfl rfl rfl _ rfl (Nat.le_of_ble_eq_true rfl) d_NS_contract_75 (show _ + 0 ≤ 60000 by omega) (show _ + 0 ≤ 360000 by omega) ?_
      refine g_isub (pc := 78) hX d_NS_contract_78 ?_
      refine g_istore (pc := 79) hX d_NS_contract_79 (by decide) ?_
      refine g_iload (pc := 81) hX d_NS_contract_81 rfl ?_
      refine g_iload (pc := 83) hX d_NS_contract_83 rfl ?_
      refine g_iadd (pc := 85) hX d_NS_contract_85 ?_
      refine g_aload_n (pc := 86) hX 0 d_NS_contract_86 rfl rfl ?_
      refine g_iload_n (pc := 87) hX 2 d_NS_contract_87 rfl rfl ?_
      refine g_iV (pc := 88) hX (c_NS_countUses l E x g kp pa la s n te sp tec tek s_10 sk_10 σ hm hs b ⟨hb1, hb2⟩) gy_NS_countUses gv_NS_countUses w_315 rfl (by decide) (by decide) [0, 1, 2, 3, 4, 5, 6, 7, 8] rfl rfl rfl rfl rfl _ rfl (Nat.le_of_ble_eq_true rfl) d_NS_contract_88 (show _ + 0 ≤ 60000 by omega) (show _ + 0 ≤ 360000 by omega) ?_
      refine g_aload_n (pc := 91) hX 0 d_NS_contract_91 rfl rfl ?_
      refine g_get (pc := 92) hX f_NS_43 0 rfl rfl d_NS_contract_92 ?_
      refine g_iload_n (pc := 95) hX 3 d_NS_contract_95 rfl rfl ?_
      refine g_iV (pc := 96) hX (c_RW_size l E te tec tek _ (by omega)) gy_RW_size gv_RW_size w_310 rfl (by decide) (by decide) [1, 2, 3, 4] rfl rfl rfl rfl rfl _ rfl (Nat.le_of_ble_eq_true rfl) d_NS_contract_96 (show _ + 0 ≤ 60000 by omega) (show _ + 0 ≤ 360000 by omega) ?_
      refine g_iconst (pc := 99) hX d_NS_contract_99 ?_
      refine g_isub (pc := 100) hX d_NS_contract_100 ?_
      refine g_imul (pc := 101) hX d_NS_contract_101 ?_
      refine g_iadd (pc := 102) hX d_NS_contract_102 ?_
      have hcl := cOut_len (f := rF tec) (g := rG tec) (σ := σ) (n := rN tec) (k := kn) (b := b) (v := v) y4 x5
      have hcu := uCnt_le (rF tec) (rG tec) b (b + 1 + σ (b + 1)) (σ (b + 1 + σ (b + 1)))
      have hmb := mulb (a := (uCnt (rF tec) (rG tec) b (b + 1 + σ (b + 1)) (σ (b + 1 + σ (b + 1))) : Nat)) (b := σ v) (by omega) y4 (by omega)
      have htot : (rN tec : Int) - rS tec (kn : Int) + ((b : Int) + rS tec (b : Int) - ((b : Int) + 1 + rS tec ((b : Int) + 1))) + ((uCnt (rF tec) (rG tec) b (b + 1 + σ (b + 1)) (σ (b + 1 + σ (b + 1))) : Nat) : Int) * (rS tec (v : Int) - 1) = (((cOut (rF tec) (rG tec) σ (rN tec) kn b v).length : Nat) : Int) := by
        rw [xs, es, eb, ev, hcl]; omega
      have hcl2 : (cOut (rF tec) (rG tec) σ (rN tec) kn b v).length = kn + (bL (rF tec) (rG tec) b v (σ v) (b + 1 + σ (b + 1)) (σ (b + 1 + σ (b + 1)))).length + (rN tec - (kn + σ kn)) := by unfold cOut; rw [List.length_append, List.length_append, seg_len, seg_len]
      rw [htot]
      refine g_sipush (pc := 103) hX 3000 d_NS_contract_103 (by decide) ?_
      refine g_icmp_le (pc := 106) (tgt := 112) hX d_NS_contract_106 (by decide) (by omega) (by omega) (fun c_11 => ?_) (fun c_11 => ?_)
      · refine g_aload_n (pc := 112) hX 0 d_NS_contract_112 rfl rfl ?_
        refine g_get (pc := 113) hX f_NS_46 0 rfl rfl d_NS_contract_113 ?_
        refine g_callV (pc := 116) hX (c_RW_clear l E sp spc spk) gy_RW_clear gv_RW_clear w_202 rfl (by decide) (by decide) [9, 10, 11, 12] rfl rfl rfl rfl rfl _ rfl (Nat.le_of_ble_eq_true rfl) d_NS_contract_116 (show _ + 0 ≤ 60000 by omega) (show _ + 0 ≤ 360000 by omega) (fun _ _ _ _ h => by obtain ⟨_, _, h2, _⟩ := h; rw [h2]; exact Nat.le_of_ble_eq_true rfl) (fun v w dc_12 ds_12 hp => ?_)
        obtain ⟨sp_12, rfl, rfl, spk_12, f_12_1, f_12_2, rfl, rfl⟩ := hp
        refine g_wsP (nsO x g kp pa la s n te sp ++ rowW E te tec ++ scW E s s_10 ++ rowW E sp sp_12) rfl rfl ?_
        obtain ⟨⟨u1, u2, u3, u4⟩, -⟩ := id spk_12
        refine g_aload_n (pc := 119) hX 0 d_NS_contract_119 rfl rfl ?_
        refine g_iconst (pc := 120) hX d_NS_contract_120 ?_
        refine g_iload_n (pc := 121) hX 1 d_NS_contract_121 rfl rfl ?_
        refine g_st (.int (iI (kn : Int)) :: .int (iI ((0 : Nat) : Int)) :: .ref x :: []) rfl ?_
        refine g_callV (pc := 122) hX (c_NS_copy l E x g kp pa la s n te sp tec tek sp_12 spk_12 0 kn ⟨by omega, by omega, by omega⟩) gy_NS_copy gv_NS_copy w_330 rfl (by decide) (by decide) [0, 1, 2, 3, 4, 9, 10, 11, 12] rfl rfl rfl rfl rfl _ rfl (Nat.le_of_ble_eq_true rfl) d_NS_contract_122 (show _ + 12000 ≤ 60000 by omega) (show _ + 72000 ≤ 360000 by omega) (fun _ _ _ _ h => by obtain ⟨_, _, h2, _⟩ := h; rw [h2]; exact Nat.le_of_ble_eq_true rfl) (fun v w dc_13 ds_13 hp => ?_)
        obtain ⟨sp_13, rfl, rfl, spk_13, f_13⟩ := hp
        refine g_wsP (nsO x g kp pa la s n te sp ++ rowW E te tec ++ scW E s s_10 ++ rowW E sp sp_13) rfl rfl ?_
        obtain ⟨d1, d2, d3, d4⟩ := f_13
        have n1 := congrArg List.length d1
        rw [List.length_append, Lr_len, Lr_len, seg_len] at n1
        obtain ⟨⟨t1, t2, t3, t4⟩, -⟩ := id spk_13
        refine g_aload_n (pc := 125) hX 0 d_NS_contract_125 rfl rfl ?_
        refine g_iload_n (pc := 126) hX 2 d_NS_contract_126 rfl rfl ?_
        refine g_iload_n (pc := 127) hX 3 d_NS_contract_127 rfl rfl ?_
        refine g_callV (pc := 128) hX (c_NS_copyLastPart l E x g kp pa la s n te sp tec tek s_10 sk_10 sp_13 spk_13 σ hm hs hb b v ⟨hb1, hb2, v1, by omega⟩) gy_NS_copyLastPart gv_NS_copyLastPart w_334 rfl (by decide) (by decide) [0, 1, 2, 3, 4, 5, 6, 7, 8, 9, 10, 11, 12] rfl rfl rfl rfl rfl _ rfl (Nat.le_of_ble_eq_true rfl) d_NS_contract_128 (show _ + 18000 ≤ 60000 by omega) (show _ + 108000 ≤ 360000 by omega) (fun _ _ _ _ h => by obtain ⟨_, _, h2, _⟩ := h; rw [h2]; exact Nat.le_of_ble_eq_true rfl) (fun v w dc_14 ds_14 hp => ?_)
        obtain ⟨sp_14, rfl, rfl, spk_14, f_14⟩ := hp
        refine g_wsP (nsO x g kp pa la s n te sp ++ rowW E te tec ++ scW E s s_10 ++ rowW E sp sp_14) rfl rfl ?_
        obtain ⟨e1, e2, e3, e4⟩ := f_14
        have n2 := congrArg List.length e1
        rw [List.length_append, Lr_len, Lr_len] at n2
        obtain ⟨⟨q1, q2, q3, q4⟩, -⟩ := id spk_14
        refine g_aload_n (pc := 131) hX 0 d_NS_contract_131 rfl rfl ?_
        refine g_aload_n (pc := 132) hX 0 d_NS_contract_132 rfl rfl ?_
        refine g_get (pc := 133) hX f_NS_43 0 rfl rfl d_NS_contract_133 ?_
        refine g_iload_n (pc := 136) hX 1 d_NS_contract_136 rfl rfl ?_
        refine g_iV (pc := 137) hX (c_RW_end l E te tec tek _ (by omega)) gy_RW_end gv_RW_end w_320 rfl (by decide) (by decide) [1, 2, 3, 4] rfl rfl rfl rfl rfl _ rfl (Nat.le_of_ble_eq_true rfl) d_NS_contract_137 (show _ + 0 ≤ 60000 by omega) (show _ + 0 ≤ 360000 by omega) ?_
        refine g_aload_n (pc := 140) hX 0 d_NS_contract_140 rfl rfl ?_
        refine g_get (pc := 141) hX f_NS_43 0 rfl rfl d_NS_contract_141 ?_
        refine g_iV (pc := 144) hX (c_RW_count l E te tec tek) gy_RW_count gv_RW_count w_156 rfl (by decide) (by decide) [1, 2, 3, 4] rfl rfl rfl rfl rfl _ rfl (Nat.le_of_ble_eq_true rfl) d_NS_contract_144 (show _ + 0 ≤ 60000 by omega) (show _ + 0 ≤ 360000 by omega) ?_
        refine g_st (.int (iI (rN tec : Int)) :: .int (iI ((kn + σ kn : Nat) : Int)) :: .ref x :: []) (by rw [xs] <;> rfl) ?_
        refine g_callV (pc := 147) hX (c_NS_copy l E x g kp pa la s n te sp tec tek sp_14 spk_14 (kn + σ kn) (rN tec) ⟨by omega, by omega, by omega⟩) gy_NS_copy gv_NS_copy w_330 rfl (by decide) (by decide) [0, 1, 2, 3, 4, 9, 10, 11, 12] rfl rfl rfl rfl rfl _ rfl (Nat.le_of_ble_eq_true rfl) d_NS_contract_147 (show _ + 12000 ≤ 60000 by omega) (show _ + 72000 ≤ 360000 by omega) (fun _ _ _ _ h => by obtain ⟨_, _, h2, _⟩ := h; rw [h2]; exact Nat.le_of_ble_eq_true rfl) (fun v w dc_15 ds_15 hp => ?_)
        obtain ⟨sp_15, rfl, rfl, spk_15, f_15⟩ := hp
        refine g_wsP (nsO x g kp pa la s n te sp ++ rowW E te tec ++ scW E s s_10 ++ rowW E sp sp_15) rfl rfl ?_
        obtain ⟨i1, i2, i3, i4⟩ := f_15
        obtain ⟨⟨o1, o2, o3, o4⟩, -⟩ := id spk_15
        have hfin : rL sp_15 = cOut (rF tec) (rG tec) σ (rN tec) kn b v := by
          rw [i1, e1, d1, show rL sp_12 = [] by show Lr (rN sp_12) _ _ = []; rw [f_12_1]; rfl]
          simp only [List.nil_append]
          rfl
        refine g_aload_n (pc := 150) hX 0 d_NS_contract_150 rfl rfl ?_
        refine g_callV (pc := 151) hX (c_NS_takeSpare l E x g kp pa la s n te sp tec tek sp_15 spk_15) gy_NS_takeSpare gv_NS_takeSpare w_296 rfl (by decide) (by decide) [0, 1, 2, 3, 4, 9, 10, 11, 12] rfl rfl rfl rfl rfl _ rfl (Nat.le_of_ble_eq_true rfl) d_NS_contract_151 (show _ + 0 ≤ 60000 by omega) (show _ + 0 ≤ 360000 by omega) (fun _ _ _ _ h => by obtain ⟨_, _, h2, _⟩ := h; rw [h2]; exact Nat.le_of_ble_eq_true rfl) (fun v w dc_16 ds_16 hp => ?_)
        obtain ⟨sp_16, rfl, rfl, spk_16, f_16_1, rfl, rfl⟩ := hp
        refine g_wsP (nsO x g kp pa la s n sp te ++ rowW E te tec ++ scW E s s_10 ++ rowW E sp sp_16) rfl rfl ?_
        have nt := f_16_1
        obtain ⟨j1, j2, j3, j4, j5⟩ := id nt
        refine g_aload_n (pc := 154) hX 0 d_NS_contract_154 rfl rfl ?_
        refine g_get (pc := 155) hX f_NS_43 0 rfl rfl d_NS_contract_155 ?_
        refine g_iV (pc := 158) hX (c_RW_count l E sp sp_16 spk_16) gy_RW_count gv_RW_count w_156 rfl (by decide) (by decide) [9, 10, 11, 12] rfl rfl rfl rfl rfl _ rfl (Nat.le_of_ble_eq_true rfl) d_NS_contract_158 (show _ + 0 ≤ 60000 by omega) (show _ + 0 ≤ 360000 by omega) ?_
        exact g_iret (pc := 161) hX hE d_NS_contract_161 (show _ ≤ 60000 by omega) (show _ ≤ 360000 by omega) (Or.inr (Or.inr ⟨kn, b, v, s_10, sp_15, sp_16, rfl, hcbv, by omega, rfl, rfl, sk_10, spk_16, hfin, nt, by omega, by omega, by omega, by omega⟩))
      · refine g_bipush (pc := 109) hX (-2) d_NS_contract_109 (by decide) ?_
        exact g_iret (pc := 111) hX hE d_NS_contract_111 (show _ ≤ 60000 by omega) (show _ ≤ 360000 by omega) (Or.inr (Or.inl ⟨kn, b, v, s_10, rfl, hcbv, by omega, rfl, rfl, sk_10, by rw [Nat.zero_add, Nat.zero_add]; exact b3⟩))
  · refine g_iconst (pc := 11) hX d_NS_contract_11 ?_
    exact g_iret (pc := 12) hX hE d_NS_contract_12 (show _ ≤ 60000 by omega) (show _ ≤ 360000 by omega) (Or.inl ⟨by omega, rfl, rfl, rfl, rfl⟩)
