abbrev rm_RW_count : Room := { frames := 0, cells := 0, slots := 0, locals := 0 }
set_option maxHeartbeats 4000000 in
set_option maxRecDepth 100000 in
theorem c_RW_count (l : Launch) (E : gE) (r : Nat) (rc : RowT) (rk : rowOK rc) : CtI l E y_RW_count b_RW_count 1 (some .int) rm_RW_count [.ref r] (rowW E r rc) (rN rc) := by
  refine g_start (by decide) (Nat.le_of_ble_eq_true rfl) (fun X hX hE hin => ?_)
  refine g_aload_n (pc := 0) hX 0 d_RW_count_0 rfl rfl ?_
  refine g_get (pc := 1) hX f_RW_22 0 rfl rfl d_RW_count_1 ?_
  exact g_iret (pc := 4) hX hE d_RW_count_4 (by decide) (by decide) ⟨rfl, rfl, rfl, rfl⟩

abbrev rm_RW_has : Room := { frames := 0, cells := 0, slots := 0, locals := 0 }
set_option maxHeartbeats 4000000 in
set_option maxRecDepth 100000 in
theorem c_RW_has (l : Launch) (E : gE) (r : Nat) (rc : RowT) (rk : rowOK rc) (k : Int) (hk : gin k) : CtI l E y_RW_has b_RW_has 2 (some .boolean) rm_RW_has [.ref r, .int (iI k)] (rowW E r rc) (bZ (0 ≤ k ∧ k < rN rc)) := by
  obtain ⟨⟨r1, r2, r3, r4⟩, rf, rg, rh⟩ := id rk
  refine g_start (by decide) (Nat.le_of_ble_eq_true rfl) (fun X hX hE hin => ?_)
  refine g_iload_n (pc := 0) hX 1 d_RW_has_0 rfl rfl ?_
  refine g_if_lt (pc := 1) (tgt := 16) hX d_RW_has_1 (by decide) (by omega) (fun c_1 => ?_) (fun c_1 => ?_)
  · refine g_iconst (pc := 16) hX d_RW_has_16 ?_
    exact g_zret (pc := 17) hX hE (by first | exact Or.inl rfl | exact Or.inr rfl | exact bZ_01 _) d_RW_has_17 (by decide) (by decide) ⟨by rw [bZ_f (by omega)], rfl, rfl, rfl⟩
  · refine g_iload_n (pc := 4) hX 1 d_RW_has_4 rfl rfl ?_
    refine g_aload_n (pc := 5) hX 0 d_RW_has_5 rfl rfl ?_
    refine g_get (pc := 6) hX f_RW_22 0 rfl rfl d_RW_has_6 ?_
    refine g_icmp_ge (pc := 9) (tgt := 16) hX d_RW_has_9 (by decide) (by omega) (by omega) (fun c_2 => ?_) (fun c_2 => ?_)
    · refine g_iconst (pc := 16) hX d_RW_has_16 ?_
      exact g_zret (pc := 17) hX hE (by first | exact Or.inl rfl | exact Or.inr rfl | exact bZ_01 _) d_RW_has_17 (by decide) (by decide) ⟨by rw [bZ_f (by omega)], rfl, rfl, rfl⟩
    · refine g_iconst (pc := 12) hX d_RW_has_12 ?_
      refine g_goto (pc := 13) (tgt := 17) hX d_RW_has_13 (by decide) ?_
      exact g_zret (pc := 17) hX hE (by first | exact Or.inl rfl | exact Or.inr rfl | exact bZ_01 _) d_RW_has_17 (by decide) (by decide) ⟨by rw [bZ_t (by omega)], rfl, rfl, rfl⟩

abbrev rm_RW_kind : Room := { frames := 1, cells := 0, slots := 0, locals := 21 }
set_option maxHeartbeats 4000000 in
set_option maxRecDepth 100000 in
theorem c_RW_kind (l : Launch) (E : gE) (r : Nat) (rc : RowT) (rk : rowOK rc) (k : Int) (hk : gin k) : CtI l E y_RW_kind b_RW_kind 2 (some .int) rm_RW_kind [.ref r, .int (iI k)] (rowW E r rc) (rK rc k) := by
  obtain ⟨⟨r1, r2, r3, r4⟩, rf, rg, rh⟩ := id rk
  refine g_start (by decide) (Nat.le_of_ble_eq_true rfl) (fun X hX hE hin => ?_)
  refine g_aload_n (pc := 0) hX 0 d_RW_kind_0 rfl rfl ?_
  refine g_iload_n (pc := 1) hX 1 d_RW_kind_1 rfl rfl ?_
  refine g_iV (pc := 2) hX (c_RW_has l E r rc rk _ (by omega)) gy_RW_has gv_RW_has w_232 rfl (by decide) (by decide) [0, 1, 2, 3] rfl rfl rfl rfl rfl _ rfl (Nat.le_of_ble_eq_true rfl) d_RW_kind_2 (by decide) (by decide) ?_
  refine g_beq (pc := 5) (tgt := 17) hX d_RW_kind_5 (by decide) (fun c_1 => ?_) (fun c_1 => ?_)
  · refine g_iconst (pc := 17) hX d_RW_kind_17 ?_
    exact g_iret (pc := 18) hX hE d_RW_kind_18 (by decide) (by decide) ⟨by rw [rK_f (by omega)], rfl, rfl, rfl⟩
  · refine g_aload_n (pc := 8) hX 0 d_RW_kind_8 rfl rfl ?_
    refine g_get (pc := 9) hX f_RW_9 0 rfl rfl d_RW_kind_9 ?_
    refine g_iload_n (pc := 12) hX 1 d_RW_kind_12 rfl rfl ?_
    refine g_iald (pc := 13) hX 1 rfl (by omega) d_RW_kind_13 ?_
    refine g_goto (pc := 14) (tgt := 18) hX d_RW_kind_14 (by decide) ?_
    exact g_iret (pc := 18) hX hE d_RW_kind_18 (by decide) (by decide) ⟨by rw [rK_t (by omega)], rfl, rfl, rfl⟩

abbrev rm_RW_beside : Room := { frames := 1, cells := 0, slots := 0, locals := 21 }
set_option maxHeartbeats 4000000 in
set_option maxRecDepth 100000 in
theorem c_RW_beside (l : Launch) (E : gE) (r : Nat) (rc : RowT) (rk : rowOK rc) (k : Int) (hk : gin k) : CtL l E y_RW_beside b_RW_beside 2 (some .long) rm_RW_beside [.ref r, .int (iI k)] (rowW E r rc) (rB rc k) := by
  obtain ⟨⟨r1, r2, r3, r4⟩, rf, rg, rh⟩ := id rk
  refine g_start (by decide) (Nat.le_of_ble_eq_true rfl) (fun X hX hE hin => ?_)
  refine g_aload_n (pc := 0) hX 0 d_RW_beside_0 rfl rfl ?_
  refine g_iload_n (pc := 1) hX 1 d_RW_beside_1 rfl rfl ?_
  refine g_iV (pc := 2) hX (c_RW_has l E r rc rk _ (by omega)) gy_RW_has gv_RW_has w_232 rfl (by decide) (by decide) [0, 1, 2, 3] rfl rfl rfl rfl rfl _ rfl (Nat.le_of_ble_eq_true rfl) d_RW_beside_2 (by decide) (by decide) ?_
  refine g_beq (pc := 5) (tgt := 17) hX d_RW_beside_5 (by decide) (fun c_1 => ?_) (fun c_1 => ?_)
  · refine g_ldc2 (pc := 17) hX (-1) w_278 (by decide) d_RW_beside_17 ?_
    exact g_lret (pc := 20) hX hE d_RW_beside_20 (by decide) (by decide) ⟨by rw [rB_f (by omega)], rfl, rfl, rfl⟩
  · refine g_aload_n (pc := 8) hX 0 d_RW_beside_8 rfl rfl ?_
    refine g_get (pc := 9) hX f_RW_15 0 rfl rfl d_RW_beside_9 ?_
    refine g_iload_n (pc := 12) hX 1 d_RW_beside_12 rfl rfl ?_
    refine g_lald (pc := 13) hX 2 rfl (by omega) d_RW_beside_13 ?_
    refine g_goto (pc := 14) (tgt := 20) hX d_RW_beside_14 (by decide) ?_
    exact g_lret (pc := 20) hX hE d_RW_beside_20 (by decide) (by decide) ⟨by rw [rB_t (by omega)], rfl, rfl, rfl⟩

abbrev rm_RW_size : Room := { frames := 1, cells := 0, slots := 0, locals := 21 }
set_option maxHeartbeats 4000000 in
set_option maxRecDepth 100000 in
theorem c_RW_size (l : Launch) (E : gE) (r : Nat) (rc : RowT) (rk : rowOK rc) (k : Int) (hk : gin k) : CtI l E y_RW_size b_RW_size 2 (some .int) rm_RW_size [.ref r, .int (iI k)] (rowW E r rc) (rS rc k) := by
  obtain ⟨⟨r1, r2, r3, r4⟩, rf, rg, rh⟩ := id rk
  refine g_start (by decide) (Nat.le_of_ble_eq_true rfl) (fun X hX hE hin => ?_)
  refine g_aload_n (pc := 0) hX 0 d_RW_size_0 rfl rfl ?_
  refine g_iload_n (pc := 1) hX 1 d_RW_size_1 rfl rfl ?_
  refine g_iV (pc := 2) hX (c_RW_has l E r rc rk _ (by omega)) gy_RW_has gv_RW_has w_232 rfl (by decide) (by decide) [0, 1, 2, 3] rfl rfl rfl rfl rfl _ rfl (Nat.le_of_ble_eq_true rfl) d_RW_size_2 (by decide) (by decide) ?_
  refine g_beq (pc := 5) (tgt := 17) hX d_RW_size_5 (by decide) (fun c_1 => ?_) (fun c_1 => ?_)
  · refine g_iconst (pc := 17) hX d_RW_size_17 ?_
    exact g_iret (pc := 18) hX hE d_RW_size_18 (by decide) (by decide) ⟨by rw [rS_f (by omega)], rfl, rfl, rfl⟩
  · refine g_aload_n (pc := 8) hX 0 d_RW_size_8 rfl rfl ?_
    refine g_get (pc := 9) hX f_RW_19 0 rfl rfl d_RW_size_9 ?_
    refine g_iload_n (pc := 12) hX 1 d_RW_size_12 rfl rfl ?_
    refine g_iald (pc := 13) hX 3 rfl (by omega) d_RW_size_13 ?_
    refine g_goto (pc := 14) (tgt := 18) hX d_RW_size_14 (by decide) ?_
    exact g_iret (pc := 18) hX hE d_RW_size_18 (by decide) (by decide) ⟨by rw [rS_t (by omega)], rfl, rfl, rfl⟩

abbrev rm_RW_end : Room := { frames := 2, cells := 0, slots := 0, locals := 42 }
set_option maxHeartbeats 4000000 in
set_option maxRecDepth 100000 in
theorem c_RW_end (l : Launch) (E : gE) (r : Nat) (rc : RowT) (rk : rowOK rc) (k : Int) (hk : gin k) : CtI l E y_RW_end b_RW_end 2 (some .int) rm_RW_end [.ref r, .int (iI k)] (rowW E r rc) (k + rS rc k) := by
  refine g_start (by decide) (Nat.le_of_ble_eq_true rfl) (fun X hX hE hin => ?_)
  refine g_iload_n (pc := 0) hX 1 d_RW_end_0 rfl rfl ?_
  refine g_aload_n (pc := 1) hX 0 d_RW_end_1 rfl rfl ?_
  refine g_iload_n (pc := 2) hX 1 d_RW_end_2 rfl rfl ?_
  refine g_iV (pc := 3) hX (c_RW_size l E r rc rk _ (by omega)) gy_RW_size gv_RW_size w_228 rfl (by decide) (by decide) [0, 1, 2, 3] rfl rfl rfl rfl rfl _ rfl (Nat.le_of_ble_eq_true rfl) d_RW_end_3 (by decide) (by decide) ?_
  refine g_iadd (pc := 6) hX d_RW_end_6 ?_
  exact g_iret (pc := 7) hX hE d_RW_end_7 (by decide) (by decide) ⟨rfl, rfl, rfl, rfl⟩

abbrev rm_RW_second : Room := { frames := 3, cells := 0, slots := 0, locals := 63 }
set_option maxHeartbeats 4000000 in
set_option maxRecDepth 100000 in
theorem c_RW_second (l : Launch) (E : gE) (r : Nat) (rc : RowT) (rk : rowOK rc) (k : Int) (hk : gin k) (h1 : gin (k + 1)) : CtI l E y_RW_second b_RW_second 2 (some .int) rm_RW_second [.ref r, .int (iI k)] (rowW E r rc) (k + 1 + rS rc (k + 1)) := by
  refine g_start (by decide) (Nat.le_of_ble_eq_true rfl) (fun X hX hE hin => ?_)
  refine g_aload_n (pc := 0) hX 0 d_RW_second_0 rfl rfl ?_
  refine g_iload_n (pc := 1) hX 1 d_RW_second_1 rfl rfl ?_
  refine g_iconst (pc := 2) hX d_RW_second_2 ?_
  refine g_iadd (pc := 3) hX d_RW_second_3 ?_
  refine g_iV (pc := 4) hX (c_RW_end l E r rc rk _ (by omega)) gy_RW_end gv_RW_end w_224 rfl (by decide) (by decide) [0, 1, 2, 3] rfl rfl rfl rfl rfl _ rfl (Nat.le_of_ble_eq_true rfl) d_RW_second_4 (by decide) (by decide) ?_
  exact g_iret (pc := 7) hX hE d_RW_second_7 (by decide) (by decide) ⟨rfl, rfl, rfl, rfl⟩
