abbrev rm_SC_depth : Room := { frames := 0, cells := 0, slots := 0, locals := 0 }
set_option maxHeartbeats 4000000 in
set_option maxRecDepth 100000 in
theorem c_SC_depth (l : Launch) (E : gE) (s : Nat) (sc : ScT) (sk : scOK sc) (k : Int) (hk : gin k) : CtI l E y_SC_depth b_SC_depth 2 (some .int) rm_SC_depth [.ref s, .int (iI k)] (scW E s sc) (zD sc k) := by
  obtain ⟨⟨s1, s2, s3, s4⟩, si, sd, so⟩ := id sk
  refine g_start (by decide) (Nat.le_of_ble_eq_true rfl) (fun X hX hE hin => ?_)
  refine g_iload_n (pc := 0) hX 1 d_SC_depth_0 rfl rfl ?_
  refine g_if_lt (pc := 1) (tgt := 21) hX d_SC_depth_1 (by decide) (by omega) (fun c_1 => ?_) (fun c_1 => ?_)
  · refine g_iconst (pc := 21) hX d_SC_depth_21 ?_
    exact g_iret (pc := 22) hX hE d_SC_depth_22 (by decide) (by decide) ⟨by rw [zD_f (by omega)], rfl, rfl, rfl⟩
  · refine g_iload_n (pc := 4) hX 1 d_SC_depth_4 rfl rfl ?_
    refine g_aload_n (pc := 5) hX 0 d_SC_depth_5 rfl rfl ?_
    refine g_get (pc := 6) hX f_SC_9 0 rfl rfl d_SC_depth_6 ?_
    refine g_icmp_ge (pc := 9) (tgt := 21) hX d_SC_depth_9 (by decide) (by omega) (by omega) (fun c_2 => ?_) (fun c_2 => ?_)
    · refine g_iconst (pc := 21) hX d_SC_depth_21 ?_
      exact g_iret (pc := 22) hX hE d_SC_depth_22 (by decide) (by decide) ⟨by rw [zD_f (by omega)], rfl, rfl, rfl⟩
    · refine g_aload_n (pc := 12) hX 0 d_SC_depth_12 rfl rfl ?_
      refine g_get (pc := 13) hX f_SC_19 0 rfl rfl d_SC_depth_13 ?_
      refine g_iload_n (pc := 16) hX 1 d_SC_depth_16 rfl rfl ?_
      refine g_iald (pc := 17) hX 2 rfl (by omega) d_SC_depth_17 ?_
      refine g_goto (pc := 18) (tgt := 22) hX d_SC_depth_18 (by decide) ?_
      exact g_iret (pc := 22) hX hE d_SC_depth_22 (by decide) (by decide) ⟨by rw [zD_t (by omega)], rfl, rfl, rfl⟩

abbrev rm_SC_innermost : Room := { frames := 0, cells := 0, slots := 0, locals := 0 }
set_option maxHeartbeats 4000000 in
set_option maxRecDepth 100000 in
theorem c_SC_innermost (l : Launch) (E : gE) (s : Nat) (sc : ScT) (sk : scOK sc) (k : Int) (hk : gin k) : CtI l E y_SC_innermost b_SC_innermost 2 (some .int) rm_SC_innermost [.ref s, .int (iI k)] (scW E s sc) (zI sc k) := by
  obtain ⟨⟨s1, s2, s3, s4⟩, si, sd, so⟩ := id sk
  refine g_start (by decide) (Nat.le_of_ble_eq_true rfl) (fun X hX hE hin => ?_)
  refine g_iload_n (pc := 0) hX 1 d_SC_innermost_0 rfl rfl ?_
  refine g_if_lt (pc := 1) (tgt := 21) hX d_SC_innermost_1 (by decide) (by omega) (fun c_1 => ?_) (fun c_1 => ?_)
  · refine g_iconst (pc := 21) hX d_SC_innermost_21 ?_
    exact g_iret (pc := 22) hX hE d_SC_innermost_22 (by decide) (by decide) ⟨by rw [zI_f (by omega)], rfl, rfl, rfl⟩
  · refine g_iload_n (pc := 4) hX 1 d_SC_innermost_4 rfl rfl ?_
    refine g_aload_n (pc := 5) hX 0 d_SC_innermost_5 rfl rfl ?_
    refine g_get (pc := 6) hX f_SC_9 0 rfl rfl d_SC_innermost_6 ?_
    refine g_icmp_ge (pc := 9) (tgt := 21) hX d_SC_innermost_9 (by decide) (by omega) (by omega) (fun c_2 => ?_) (fun c_2 => ?_)
    · refine g_iconst (pc := 21) hX d_SC_innermost_21 ?_
      exact g_iret (pc := 22) hX hE d_SC_innermost_22 (by decide) (by decide) ⟨by rw [zI_f (by omega)], rfl, rfl, rfl⟩
    · refine g_aload_n (pc := 12) hX 0 d_SC_innermost_12 rfl rfl ?_
      refine g_get (pc := 13) hX f_SC_15 0 rfl rfl d_SC_innermost_13 ?_
      refine g_iload_n (pc := 16) hX 1 d_SC_innermost_16 rfl rfl ?_
      refine g_iald (pc := 17) hX 1 rfl (by omega) d_SC_innermost_17 ?_
      refine g_goto (pc := 18) (tgt := 22) hX d_SC_innermost_18 (by decide) ?_
      exact g_iret (pc := 22) hX hE d_SC_innermost_22 (by decide) (by decide) ⟨by rw [zI_t (by omega)], rfl, rfl, rfl⟩

abbrev rm_SC_open : Room := { frames := 0, cells := 0, slots := 0, locals := 0 }
set_option maxHeartbeats 4000000 in
set_option maxRecDepth 100000 in
theorem c_SC_open (l : Launch) (E : gE) (s : Nat) (sc : ScT) (sk : scOK sc) (k : Int) (hk : gin k) : CtI l E y_SC_open b_SC_open 2 (some .int) rm_SC_open [.ref s, .int (iI k)] (scW E s sc) (zO sc k) := by
  obtain ⟨⟨s1, s2, s3, s4⟩, si, sd, so⟩ := id sk
  refine g_start (by decide) (Nat.le_of_ble_eq_true rfl) (fun X hX hE hin => ?_)
  refine g_iload_n (pc := 0) hX 1 d_SC_open_0 rfl rfl ?_
  refine g_if_lt (pc := 1) (tgt := 22) hX d_SC_open_1 (by decide) (by omega) (fun c_1 => ?_) (fun c_1 => ?_)
  · refine g_iconst (pc := 22) hX d_SC_open_22 ?_
    exact g_iret (pc := 23) hX hE d_SC_open_23 (by decide) (by decide) ⟨by rw [zO_f (by omega)], rfl, rfl, rfl⟩
  · refine g_iload_n (pc := 4) hX 1 d_SC_open_4 rfl rfl ?_
    refine g_aload_n (pc := 5) hX 0 d_SC_open_5 rfl rfl ?_
    refine g_get (pc := 6) hX f_SC_22 0 rfl rfl d_SC_open_6 ?_
    refine g_alenI (pc := 9) hX 3 rfl d_SC_open_9 ?_
    refine g_icmp_ge (pc := 10) (tgt := 22) hX d_SC_open_10 (by decide) (by omega) (by omega) (fun c_2 => ?_) (fun c_2 => ?_)
    · refine g_iconst (pc := 22) hX d_SC_open_22 ?_
      exact g_iret (pc := 23) hX hE d_SC_open_23 (by decide) (by decide) ⟨by rw [zO_f (by omega)], rfl, rfl, rfl⟩
    · refine g_aload_n (pc := 13) hX 0 d_SC_open_13 rfl rfl ?_
      refine g_get (pc := 14) hX f_SC_22 0 rfl rfl d_SC_open_14 ?_
      refine g_iload_n (pc := 17) hX 1 d_SC_open_17 rfl rfl ?_
      refine g_iald (pc := 18) hX 3 rfl (by omega) d_SC_open_18 ?_
      refine g_goto (pc := 19) (tgt := 23) hX d_SC_open_19 (by decide) ?_
      exact g_iret (pc := 23) hX hE d_SC_open_23 (by decide) (by decide) ⟨by rw [zO_t (by omega)], rfl, rfl, rfl⟩

abbrev rm_SC_binderOf : Room := { frames := 1, cells := 0, slots := 0, locals := 21 }
set_option maxHeartbeats 4000000 in
set_option maxRecDepth 100000 in
theorem c_SC_binderOf (l : Launch) (E : gE) (s : Nat) (sc : ScT) (sk : scOK sc) (k : Int) (hk : gin k) (b : Int) (hb : gil b) (h0 : -1 ≤ b ∧ b ≤ 4000) : CtI l E y_SC_binderOf b_SC_binderOf 6 (some .int) rm_SC_binderOf [.ref s, .int (iI k), .long (lI b)] (scW E s sc) (zO sc (zD sc k - 1 - b)) := by
  obtain ⟨⟨s1, s2, s3, s4⟩, si, sd, so⟩ := id sk
  have zd := zD_in sk k
  refine g_start (by decide) (Nat.le_of_ble_eq_true rfl) (fun X hX hE hin => ?_)
  refine g_aload_n (pc := 0) hX 0 d_SC_binderOf_0 rfl rfl ?_
  refine g_iload_n (pc := 1) hX 1 d_SC_binderOf_1 rfl rfl ?_
  refine g_iV (pc := 2) hX (c_SC_depth l E s sc sk _ (by omega)) gy_SC_depth gv_SC_depth w_250 rfl (by decide) (by decide) [0, 1, 2, 3] rfl rfl rfl rfl rfl _ rfl (Nat.le_of_ble_eq_true rfl) d_SC_binderOf_2 (by decide) (by decide) ?_
  refine g_iconst (pc := 5) hX d_SC_binderOf_5 ?_
  refine g_isub (pc := 6) hX d_SC_binderOf_6 ?_
  refine g_i2l (pc := 7) hX d_SC_binderOf_7 (by omega) ?_
  refine g_lload_n (pc := 8) hX 2 d_SC_binderOf_8 rfl rfl ?_
  refine g_lsub (pc := 9) hX d_SC_binderOf_9 ?_
  refine g_lstore (pc := 10) hX d_SC_binderOf_10 (by decide) ?_
  refine g_lload (pc := 12) hX d_SC_binderOf_12 rfl ?_
  refine g_lconst (pc := 14) hX 0 d_SC_binderOf_14 (by decide) ?_
  refine g_lcmp_lt (pc := 15) (tgt := 42) hX d_SC_binderOf_15 d_SC_binderOf_16 (by decide) (by omega) (by omega) (fun c_1 => ?_) (fun c_1 => ?_)
  · refine g_iconst (pc := 42) hX d_SC_binderOf_42 ?_
    exact g_iret (pc := 43) hX hE d_SC_binderOf_43 (by decide) (by decide) ⟨by rw [zO_f (by omega)], rfl, rfl, rfl⟩
  · refine g_lload (pc := 19) hX d_SC_binderOf_19 rfl ?_
    refine g_aload_n (pc := 21) hX 0 d_SC_binderOf_21 rfl rfl ?_
    refine g_get (pc := 22) hX f_SC_22 0 rfl rfl d_SC_binderOf_22 ?_
    refine g_alenI (pc := 25) hX 3 rfl d_SC_binderOf_25 ?_
    refine g_i2l (pc := 26) hX d_SC_binderOf_26 (by omega) ?_
    refine g_lcmp_ge (pc := 27) (tgt := 42) hX d_SC_binderOf_27 d_SC_binderOf_28 (by decide) (by omega) (by omega) (fun c_2 => ?_) (fun c_2 => ?_)
    · refine g_iconst (pc := 42) hX d_SC_binderOf_42 ?_
      exact g_iret (pc := 43) hX hE d_SC_binderOf_43 (by decide) (by decide) ⟨by rw [zO_f (by omega)], rfl, rfl, rfl⟩
    · refine g_aload_n (pc := 31) hX 0 d_SC_binderOf_31 rfl rfl ?_
      refine g_get (pc := 32) hX f_SC_22 0 rfl rfl d_SC_binderOf_32 ?_
      refine g_lload (pc := 35) hX d_SC_binderOf_35 rfl ?_
      refine g_l2i (pc := 37) hX d_SC_binderOf_37 ?_
      refine g_iald (pc := 38) hX 3 rfl (by omega) d_SC_binderOf_38 ?_
      refine g_goto (pc := 39) (tgt := 43) hX d_SC_binderOf_39 (by decide) ?_
      exact g_iret (pc := 43) hX hE d_SC_binderOf_43 (by decide) (by decide) ⟨by rw [zO_t (by omega)], rfl, rfl, rfl⟩

abbrev rm_SC_enter : Room := { frames := 1, cells := 0, slots := 0, locals := 21 }
set_option maxHeartbeats 4000000 in
set_option maxRecDepth 100000 in
theorem c_SC_enter (l : Launch) (E : gE) (s : Nat) (sc : ScT) (sk : scOK sc) (k : Int) (hk : gin k) : Ct l E y_SC_enter b_SC_enter 3 none rm_SC_enter [.ref s, .int (iI k)] (scW E s sc) (fun v w dc ds => ∃ ς, v = none ∧ w = scW E s ς ∧ scOK ς ∧ (ς = (sA sc, sN sc, sC sc, sI sc, sD sc, enO sc k) ∧ dc = 0 ∧ ds = 0)) := by
  obtain ⟨⟨s1, s2, s3, s4⟩, si, sd, so⟩ := id sk
  have zd := zD_in sk k
  have zi := zI_in sk k
  refine g_start (by decide) (Nat.le_of_ble_eq_true rfl) (fun X hX hE hin => ?_)
  refine g_aload_n (pc := 0) hX 0 d_SC_enter_0 rfl rfl ?_
  refine g_iload_n (pc := 1) hX 1 d_SC_enter_1 rfl rfl ?_
  refine g_iV (pc := 2) hX (c_SC_depth l E s sc sk _ (by omega)) gy_SC_depth gv_SC_depth w_250 rfl (by decide) (by decide) [0, 1, 2, 3] rfl rfl rfl rfl rfl _ rfl (Nat.le_of_ble_eq_true rfl) d_SC_enter_2 (by decide) (by decide) ?_
  refine g_iconst (pc := 5) hX d_SC_enter_5 ?_
  refine g_isub (pc := 6) hX d_SC_enter_6 ?_
  refine g_istore_n (pc := 7) hX 2 d_SC_enter_7 rfl (by decide) ?_
  refine g_iload_n (pc := 8) hX 2 d_SC_enter_8 rfl rfl ?_
  refine g_if_lt (pc := 9) (tgt := 32) hX d_SC_enter_9 (by decide) (by omega) (fun c_1 => ?_) (fun c_1 => ?_)
  · have eo : enO sc k = sO sc := if_neg (by omega)
    exact g_vret (pc := 32) hX hE d_SC_enter_32 (by decide) (by decide) ⟨(sA sc, sN sc, sC sc, sI sc, sD sc, enO sc k), rfl, by rw [eo] <;> rfl, sk.u ⟨s1, s2⟩ si sd (by rw [eo]; first | exact so | exact uZ_gin so zi), rfl, rfl, rfl⟩
  · refine g_iload_n (pc := 12) hX 2 d_SC_enter_12 rfl rfl ?_
    refine g_aload_n (pc := 13) hX 0 d_SC_enter_13 rfl rfl ?_
    refine g_get (pc := 14) hX f_SC_22 0 rfl rfl d_SC_enter_14 ?_
    refine g_alenI (pc := 17) hX 3 rfl d_SC_enter_17 ?_
    refine g_icmp_ge (pc := 18) (tgt := 32) hX d_SC_enter_18 (by decide) (by omega) (by omega) (fun c_2 => ?_) (fun c_2 => ?_)
    · have eo : enO sc k = sO sc := if_neg (by omega)
      exact g_vret (pc := 32) hX hE d_SC_enter_32 (by decide) (by decide) ⟨(sA sc, sN sc, sC sc, sI sc, sD sc, enO sc k), rfl, by rw [eo] <;> rfl, sk.u ⟨s1, s2⟩ si sd (by rw [eo]; first | exact so | exact uZ_gin so zi), rfl, rfl, rfl⟩
    · refine g_aload_n (pc := 21) hX 0 d_SC_enter_21 rfl rfl ?_
      refine g_get (pc := 22) hX f_SC_22 0 rfl rfl d_SC_enter_22 ?_
      refine g_iload_n (pc := 25) hX 2 d_SC_enter_25 rfl rfl ?_
      refine g_aload_n (pc := 26) hX 0 d_SC_enter_26 rfl rfl ?_
      refine g_iload_n (pc := 27) hX 1 d_SC_enter_27 rfl rfl ?_
      refine g_iV (pc := 28) hX (c_SC_innermost l E s sc sk _ (by omega)) gy_SC_innermost gv_SC_innermost w_265 rfl (by decide) (by decide) [0, 1, 2, 3] rfl rfl rfl rfl rfl _ rfl (Nat.le_of_ble_eq_true rfl) d_SC_enter_28 (by decide) (by decide) ?_
      refine g_iast (pc := 31) hX 3 rfl (by omega) d_SC_enter_31 ?_
      have eo : enO sc k = uZ (sO sc) (zD sc k - 1).toNat (zI sc k) := if_pos (by omega)
      exact g_vret (pc := 32) hX hE d_SC_enter_32 (by decide) (by decide) ⟨(sA sc, sN sc, sC sc, sI sc, sD sc, enO sc k), rfl, by rw [eo] <;> rfl, sk.u ⟨s1, s2⟩ si sd (by rw [eo]; first | exact so | exact uZ_gin so zi), rfl, rfl, rfl⟩

abbrev rm_SC_setInnermost : Room := { frames := 0, cells := 0, slots := 0, locals := 0 }
set_option maxHeartbeats 4000000 in
set_option maxRecDepth 100000 in
theorem c_SC_setInnermost (l : Launch) (E : gE) (s : Nat) (sc : ScT) (sk : scOK sc) (k : Int) (hk : gin k) (b : Int) (hb : gin b) : Ct l E y_SC_setInnermost b_SC_setInnermost 3 none rm_SC_setInnermost [.ref s, .int (iI k), .int (iI b)] (scW E s sc) (fun v w dc ds => ∃ ς, v = none ∧ w = scW E s ς ∧ scOK ς ∧ (ς = (sA sc, sN sc, sC sc, (if 0 ≤ k ∧ k < sN sc then uZ (sI sc) k.toNat b else sI sc), sD sc, sO sc) ∧ dc = 0 ∧ ds = 0)) := by
  obtain ⟨⟨s1, s2, s3, s4⟩, si, sd, so⟩ := id sk
  refine g_start (by decide) (Nat.le_of_ble_eq_true rfl) (fun X hX hE hin => ?_)
  refine g_iload_n (pc := 0) hX 1 d_SC_setInnermost_0 rfl rfl ?_
  refine g_if_lt (pc := 1) (tgt := 19) hX d_SC_setInnermost_1 (by decide) (by omega) (fun c_1 => ?_) (fun c_1 => ?_)
  · have ei : (if 0 ≤ k ∧ k < sN sc then uZ (sI sc) k.toNat b else sI sc) = sI sc := if_neg (by omega)
    exact g_vret (pc := 19) hX hE d_SC_setInnermost_19 (by decide) (by decide) ⟨_, rfl, by rw [ei] <;> rfl, sk.u ⟨s1, s2⟩ (by rw [ei]; first | exact si | exact uZ_gin si hb) sd so, rfl, rfl, rfl⟩
  · refine g_iload_n (pc := 4) hX 1 d_SC_setInnermost_4 rfl rfl ?_
    refine g_aload_n (pc := 5) hX 0 d_SC_setInnermost_5 rfl rfl ?_
    refine g_get (pc := 6) hX f_SC_9 0 rfl rfl d_SC_setInnermost_6 ?_
    refine g_icmp_ge (pc := 9) (tgt := 19) hX d_SC_setInnermost_9 (by decide) (by omega) (by omega) (fun c_2 => ?_) (fun c_2 => ?_)
    · have ei : (if 0 ≤ k ∧ k < sN sc then uZ (sI sc) k.toNat b else sI sc) = sI sc := if_neg (by omega)
      exact g_vret (pc := 19) hX hE d_SC_setInnermost_19 (by decide) (by decide) ⟨_, rfl, by rw [ei] <;> rfl, sk.u ⟨s1, s2⟩ (by rw [ei]; first | exact si | exact uZ_gin si hb) sd so, rfl, rfl, rfl⟩
    · refine g_aload_n (pc := 12) hX 0 d_SC_setInnermost_12 rfl rfl ?_
      refine g_get (pc := 13) hX f_SC_15 0 rfl rfl d_SC_setInnermost_13 ?_
      refine g_iload_n (pc := 16) hX 1 d_SC_setInnermost_16 rfl rfl ?_
      refine g_iload_n (pc := 17) hX 2 d_SC_setInnermost_17 rfl rfl ?_
      refine g_iast (pc := 18) hX 1 rfl (by omega) d_SC_setInnermost_18 ?_
      have ei : (if 0 ≤ k ∧ k < sN sc then uZ (sI sc) k.toNat b else sI sc) = uZ (sI sc) k.toNat b := if_pos (by omega)
      exact g_vret (pc := 19) hX hE d_SC_setInnermost_19 (by decide) (by decide) ⟨_, rfl, by rw [ei] <;> rfl, sk.u ⟨s1, s2⟩ (by rw [ei]; first | exact si | exact uZ_gin si hb) sd so, rfl, rfl, rfl⟩
