-- the number behind a name, and the name with a number behind
theorem nmb_1 {z m : Int} (h1 : 1 ≤ m) (h2 : m ≤ 9) : nmb z m = z * 256 + (48 + m) := by
  unfold nmb nst
  rw [if_neg (show ¬ ((1000 : Int) ≤ m) by omega), if_neg (show ¬ ((100 : Int) ≤ m) by omega), if_neg (show ¬ ((10 : Int) ≤ m) by omega), if_pos (show (1 : Int) ≤ m by omega)]
  omega
theorem nmb_2 {z m : Int} (h1 : 10 ≤ m) (h2 : m ≤ 99) : nmb z m = (z * 256 + (48 + m / 10)) * 256 + (48 + m % 10) := by
  unfold nmb nst
  rw [if_neg (show ¬ ((1000 : Int) ≤ m) by omega), if_neg (show ¬ ((100 : Int) ≤ m) by omega), if_pos (show (10 : Int) ≤ m by omega), if_pos (show (1 : Int) ≤ m by omega)]
  omega
theorem nmb_3 {z m : Int} (h1 : 100 ≤ m) (h2 : m ≤ 999) : nmb z m = ((z * 256 + (48 + m / 100)) * 256 + (48 + m / 10 % 10)) * 256 + (48 + m % 10) := by
  unfold nmb nst
  rw [if_neg (show ¬ ((1000 : Int) ≤ m) by omega), if_pos (show (100 : Int) ≤ m by omega), if_pos (show (10 : Int) ≤ m by omega), if_pos (show (1 : Int) ≤ m by omega)]
  omega
theorem nmb_4 {z m : Int} (h1 : 1000 ≤ m) (h2 : m ≤ 9999) : nmb z m = (((z * 256 + (48 + m / 1000)) * 256 + (48 + m / 100 % 10)) * 256 + (48 + m / 10 % 10)) * 256 + (48 + m % 10) := by
  unfold nmb nst
  rw [if_pos (show (1000 : Int) ≤ m by omega), if_pos (show (100 : Int) ≤ m by omega), if_pos (show (10 : Int) ≤ m by omega), if_pos (show (1 : Int) ≤ m by omega)]
  omega
theorem nbh_nmb {z m : Int} (hz : 1 ≤ z) (h1 : 1 ≤ m) (h2 : m ≤ 9999) : nbh z 7 (nmb z m) 0 1 = m := by
  by_cases c1 : m ≤ 9
  · rw [nmb_1 h1 c1, nbh_e (by omega) (by omega), if_neg (by omega)]; omega
  by_cases c2 : m ≤ 99
  · rw [nmb_2 (by omega) c2, nbh_s (by omega) (by omega), nbh_e (by omega) (by omega), if_neg (by omega)]; omega
  by_cases c3 : m ≤ 999
  · rw [nmb_3 (by omega) c3, nbh_s (by omega) (by omega), nbh_s (by omega) (by omega), nbh_e (by omega) (by omega), if_neg (by omega)]; omega
  · rw [nmb_4 (by omega) h2, nbh_s (by omega) (by omega), nbh_s (by omega) (by omega), nbh_s (by omega) (by omega), nbh_e (by omega) (by omega), if_neg (by omega)]; omega
/-- a digit string found later gives at least its leading place -/
theorem nbh_big {z : Int} : ∀ (k : Nat) (h M t : Int), 0 ≤ M → 0 < t → nbh z k h M t = 0 ∨ t ≤ nbh z k h M t
  | 0, _, _, _, _, _ => Or.inl rfl
  | k + 1, h, M, t, hM, ht => by
    by_cases hd : 48 ≤ h % 256 ∧ h % 256 ≤ 57
    · have d0 : 0 ≤ t * (h % 256 - 48) := Int.mul_nonneg (by omega) (by omega)
      by_cases he : h / 256 = z
      · rw [nbh_e hd he]
        by_cases h8 : h % 256 = 48
        · rw [if_pos h8]; exact Or.inl rfl
        · rw [if_neg h8]
          have : t * 1 ≤ t * (h % 256 - 48) := Int.mul_le_mul_of_nonneg_left (by omega) (by omega)
          exact Or.inr (by omega)
      · rw [nbh_s hd he]
        rcases nbh_big k (h / 256) (M + t * (h % 256 - 48)) (t * 10) (by omega) (by omega) with q | q
        · exact Or.inl q
        · exact Or.inr (by omega)
    · rw [nbh_n hd]; exact Or.inl rfl
theorem nmb_nbh {z x m : Int} (hx : 0 ≤ x) (h1 : 1 ≤ m) (h2 : m ≤ 9999) (h : nbh z 7 x 0 1 = m) : x = nmb z m := by
  by_cases d0 : 48 ≤ x % 256 ∧ x % 256 ≤ 57
  case neg => rw [nbh_n d0] at h; omega
  by_cases e0 : x / 256 = z
  · rw [nbh_e d0 e0] at h
    split at h
    · omega
    · rw [nmb_1 (by omega) (by omega)]; omega
  rw [nbh_s d0 e0] at h
  by_cases d1 : 48 ≤ x / 256 % 256 ∧ x / 256 % 256 ≤ 57
  case neg => rw [nbh_n d1] at h; omega
  by_cases e1 : x / 256 / 256 = z
  · rw [nbh_e d1 e1] at h
    split at h
    · omega
    · rw [nmb_2 (by omega) (by omega)]; omega
  rw [nbh_s d1 e1] at h
  by_cases d2 : 48 ≤ x / 256 / 256 % 256 ∧ x / 256 / 256 % 256 ≤ 57
  case neg => rw [nbh_n d2] at h; omega
  by_cases e2 : x / 256 / 256 / 256 = z
  · rw [nbh_e d2 e2] at h
    split at h
    · omega
    · rw [nmb_3 (by omega) (by omega)]; omega
  rw [nbh_s d2 e2] at h
  by_cases d3 : 48 ≤ x / 256 / 256 / 256 % 256 ∧ x / 256 / 256 / 256 % 256 ≤ 57
  case neg => rw [nbh_n d3] at h; omega
  by_cases e3 : x / 256 / 256 / 256 / 256 = z
  · rw [nbh_e d3 e3] at h
    split at h
    · omega
    · rw [nmb_4 (by omega) (by omega)]; omega
  rw [nbh_s d3 e3] at h
  rcases nbh_big 3 (x / 256 / 256 / 256 / 256) (0 + 1 * (x % 256 - 48) + 1 * 10 * (x / 256 % 256 - 48) + 1 * 10 * 10 * (x / 256 / 256 % 256 - 48) + 1 * 10 * 10 * 10 * (x / 256 / 256 / 256 % 256 - 48)) (1 * 10 * 10 * 10 * 10) (by omega) (by omega) with q | q
  · rw [q] at h; omega
  · rw [h] at q; omega
