abbrev rm_NS_isBinder : Room := { frames := 0, cells := 0, slots := 0, locals := 0 }
set_option maxHeartbeats 4000000 in
set_option maxRecDepth 100000 in
theorem c_NS_isBinder (l : Launch) (E : gE) (k : Int) (hk : gin k) : CtI l E y_NS_isBinder b_NS_isBinder 1 (some .boolean) rm_NS_isBinder [.int (iI k)] ([]) (bZ (k = 1 ∨ k = 2 ∨ k = 3 ∨ k = 6)) := by
  refine g_start (by decide) (Nat.le_of_ble_eq_true rfl) (fun X hX hE hin => ?_)
  refine g_iload_n (pc := 0) hX 0 d_NS_isBinder_0 rfl rfl ?_
  refine g_iconst (pc := 1) hX d_NS_isBinder_1 ?_
  refine g_icmp_eq (pc := 2) (tgt := 21) hX d_NS_isBinder_2 (by decide) (by omega) (by omega) (fun c_1 => ?_) (fun c_1 => ?_)
  · refine g_iconst (pc := 21) hX d_NS_isBinder_21 ?_
    refine g_goto (pc := 22) (tgt := 26) hX d_NS_isBinder_22 (by decide) ?_
    exact g_zret (pc := 26) hX hE (by first | exact Or.inl rfl | exact Or.inr rfl | exact bZ_01 _) d_NS_isBinder_26 (by decide) (by decide) ⟨by rw [bZ_t (by omega)], rfl, rfl, rfl⟩
  · refine g_iload_n (pc := 5) hX 0 d_NS_isBinder_5 rfl rfl ?_
    refine g_iconst (pc := 6) hX d_NS_isBinder_6 ?_
    refine g_icmp_eq (pc := 7) (tgt := 21) hX d_NS_isBinder_7 (by decide) (by omega) (by omega) (fun c_2 => ?_) (fun c_2 => ?_)
    · refine g_iconst (pc := 21) hX d_NS_isBinder_21 ?_
      refine g_goto (pc := 22) (tgt := 26) hX d_NS_isBinder_22 (by decide) ?_
      exact g_zret (pc := 26) hX hE (by first | exact Or.inl rfl | exact Or.inr rfl | exact bZ_01 _) d_NS_isBinder_26 (by decide) (by decide) ⟨by rw [bZ_t (by omega)], rfl, rfl, rfl⟩
    · refine g_iload_n (pc := 10) hX 0 d_NS_isBinder_10 rfl rfl ?_
      refine g_iconst (pc := 11) hX d_NS_isBinder_11 ?_
      refine g_icmp_eq (pc := 12) (tgt := 21) hX d_NS_isBinder_12 (by decide) (by omega) (by omega) (fun c_3 => ?_) (fun c_3 => ?_)
      · refine g_iconst (pc := 21) hX d_NS_isBinder_21 ?_
        refine g_goto (pc := 22) (tgt := 26) hX d_NS_isBinder_22 (by decide) ?_
        exact g_zret (pc := 26) hX hE (by first | exact Or.inl rfl | exact Or.inr rfl | exact bZ_01 _) d_NS_isBinder_26 (by decide) (by decide) ⟨by rw [bZ_t (by omega)], rfl, rfl, rfl⟩
      · refine g_iload_n (pc := 15) hX 0 d_NS_isBinder_15 rfl rfl ?_
        refine g_bipush (pc := 16) hX 6 d_NS_isBinder_16 (by decide) ?_
        refine g_icmp_ne (pc := 18) (tgt := 25) hX d_NS_isBinder_18 (by decide) (by omega) (by omega) (fun c_4 => ?_) (fun c_4 => ?_)
        · refine g_iconst (pc := 25) hX d_NS_isBinder_25 ?_
          exact g_zret (pc := 26) hX hE (by first | exact Or.inl rfl | exact Or.inr rfl | exact bZ_01 _) d_NS_isBinder_26 (by decide) (by decide) ⟨by rw [bZ_f (by omega)], rfl, rfl, rfl⟩
        · refine g_iconst (pc := 21) hX d_NS_isBinder_21 ?_
          refine g_goto (pc := 22) (tgt := 26) hX d_NS_isBinder_22 (by decide) ?_
          exact g_zret (pc := 26) hX hE (by first | exact Or.inl rfl | exact Or.inr rfl | exact bZ_01 _) d_NS_isBinder_26 (by decide) (by decide) ⟨by rw [bZ_t (by omega)], rfl, rfl, rfl⟩

abbrev rm_NS_hasParts : Room := { frames := 1, cells := 0, slots := 0, locals := 20 }
set_option maxHeartbeats 4000000 in
set_option maxRecDepth 100000 in
theorem c_NS_hasParts (l : Launch) (E : gE) (k : Int) (hk : gin k) : CtI l E y_NS_hasParts b_NS_hasParts 1 (some .boolean) rm_NS_hasParts [.int (iI k)] ([]) (bZ (k = 1 ∨ k = 2 ∨ k = 3 ∨ k = 6 ∨ k = 4)) := by
  refine g_start (by decide) (Nat.le_of_ble_eq_true rfl) (fun X hX hE hin => ?_)
  refine g_iload_n (pc := 0) hX 0 d_NS_hasParts_0 rfl rfl ?_
  refine g_iS (pc := 1) hX (c_NS_isBinder l E _ (by omega)) gy_NS_isBinder w_218 w_217 rfl (by decide) (by decide) [] rfl rfl _ rfl (Nat.le_of_ble_eq_true rfl) d_NS_hasParts_1 (by decide) (by decide) ?_
  refine g_bne (pc := 4) (tgt := 12) hX d_NS_hasParts_4 (by decide) (fun c_1 => ?_) (fun c_1 => ?_)
  · refine g_iconst (pc := 12) hX d_NS_hasParts_12 ?_
    refine g_goto (pc := 13) (tgt := 17) hX d_NS_hasParts_13 (by decide) ?_
    exact g_zret (pc := 17) hX hE (by first | exact Or.inl rfl | exact Or.inr rfl | exact bZ_01 _) d_NS_hasParts_17 (by decide) (by decide) ⟨by rw [bZ_t (by omega)], rfl, rfl, rfl⟩
  · refine g_iload_n (pc := 7) hX 0 d_NS_hasParts_7 rfl rfl ?_
    refine g_iconst (pc := 8) hX d_NS_hasParts_8 ?_
    refine g_icmp_ne (pc := 9) (tgt := 16) hX d_NS_hasParts_9 (by decide) (by omega) (by omega) (fun c_2 => ?_) (fun c_2 => ?_)
    · refine g_iconst (pc := 16) hX d_NS_hasParts_16 ?_
      exact g_zret (pc := 17) hX hE (by first | exact Or.inl rfl | exact Or.inr rfl | exact bZ_01 _) d_NS_hasParts_17 (by decide) (by decide) ⟨by rw [bZ_f (by omega)], rfl, rfl, rfl⟩
    · refine g_iconst (pc := 12) hX d_NS_hasParts_12 ?_
      refine g_goto (pc := 13) (tgt := 17) hX d_NS_hasParts_13 (by decide) ?_
      exact g_zret (pc := 17) hX hE (by first | exact Or.inl rfl | exact Or.inr rfl | exact bZ_01 _) d_NS_hasParts_17 (by decide) (by decide) ⟨by rw [bZ_t (by omega)], rfl, rfl, rfl⟩

abbrev rm_NS_longer : Room := { frames := 1, cells := 0, slots := 0, locals := 21 }
set_option maxHeartbeats 4000000 in
set_option maxRecDepth 100000 in
theorem c_NS_longer (l : Launch) (E : gE) (n : Int) (hn : gin n) (m : Int) (hm : gin m) (h0 : gin (2 * n)) : CtI l E y_NS_longer b_NS_longer 2 (some .int) rm_NS_longer [.int (iI n), .int (iI m)] ([]) (if m < 2 * n then 2 * n else m) := by
  refine g_start (by decide) (Nat.le_of_ble_eq_true rfl) (fun X hX hE hin => ?_)
  refine g_iload_n (pc := 0) hX 1 d_NS_longer_0 rfl rfl ?_
  refine g_iconst (pc := 1) hX d_NS_longer_1 ?_
  refine g_iload_n (pc := 2) hX 0 d_NS_longer_2 rfl rfl ?_
  refine g_imul (pc := 3) hX d_NS_longer_3 ?_
  refine g_mmax (pc := 4) hX w_171 w_172 w_8 w_173 (by decide) (by decide) (Nat.le_of_ble_eq_true rfl) (by decide) (by decide) (by omega) (by omega) d_NS_longer_4 ?_
  exact g_iret (pc := 7) hX hE d_NS_longer_7 (by decide) (by decide) ⟨rfl, rfl, rfl, rfl⟩
