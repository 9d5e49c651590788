def pw : Nat → Int
  | 0 => 1
  | k + 1 => 10 * pw k
theorem pw_pos : ∀ k, 1 ≤ pw k
  | 0 => by decide
  | k + 1 => by have := pw_pos k; show 1 ≤ 10 * pw k; omega
theorem nbh_in (b : Int) : ∀ (k : Nat) (h m t : Int), 0 ≤ m → m < t → 0 ≤ nbh b k h m t ∧ nbh b k h m t < t * pw k
  | 0, _, m, t, h1, h2 => by
    show (0 : Int) ≤ 0 ∧ (0 : Int) < t * 1
    omega
  | k + 1, h, m, t, h1, h2 => by
    have hp : t * pw (k + 1) = t * 10 * pw k := by show t * (10 * pw k) = _; rw [Int.mul_assoc]
    have hq := pw_pos k
    have hmul : t * 10 * 1 ≤ t * 10 * pw k := Int.mul_le_mul_of_nonneg_left hq (by omega)
    by_cases hd : 48 ≤ h % 256 ∧ h % 256 ≤ 57
    · have d0 : 0 ≤ t * (h % 256 - 48) := Int.mul_nonneg (by omega) (by omega)
      have d9 : t * (h % 256 - 48) ≤ t * 9 := Int.mul_le_mul_of_nonneg_left (by omega) (by omega)
      by_cases he : h / 256 = b
      · rw [nbh_e hd he, hp]
        split <;> omega
      · rw [nbh_s hd he, hp]
        exact nbh_in b k _ _ _ (by omega) (by omega)
    · rw [nbh_n hd, hp]; omega
theorem nbh7 (b h : Int) : 0 ≤ nbh b 7 h 0 1 ∧ nbh b 7 h 0 1 < 10000000 := by
  have := nbh_in b 7 h 0 1 (by decide) (by decide)
  have e : (1 : Int) * pw 7 = 10000000 := by decide
  omega
/-- r is the least number behind 'own' that none of the M names near has -/
def leastN (own : Int) (M : Nat) (R : Nat → Int) (r : Nat) : Prop := 1 ≤ r ∧ (r ≤ M ∨ r = 1) ∧ (∀ m : Nat, 1 ≤ m → m < r → ∃ i, i < M ∧ nbh own 7 (R i) 0 1 = m) ∧ (r < M → ∀ i, i < M → nbh own 7 (R i) 0 1 ≠ r)
def LR (m : Nat) (R : Nat → Int) : List Int := (List.range m).map R
theorem LR_add (m : Nat) (R : Nat → Int) (z : Int) : LR (m + 1) (uZ R m z) = LR m R ++ [z] := by
  unfold LR
  rw [List.range_succ, List.map_append]
  congr 1
  · apply List.map_congr_left
    intro j hj
    have := List.mem_range.mp hj
    exact uZ_n (by omega)
  · simp [uZ]
theorem LR_len (m : Nat) (R : Nat → Int) : (LR m R).length = m := by simp [LR]
theorem tk_skip {z : Int} {R K : Nat → Int} {M i : Nat} {v : Int} (h : ∀ j, j < M → (K j = 0 ∨ K j = 1) ∧ (K j = 1 ↔ 1 ≤ j ∧ ∃ a, a < i ∧ nbh z 7 (R a) 0 1 = j)) (hv : v = nbh z 7 (R i) 0 1) (hb : v ≤ 0 ∨ (M : Int) ≤ v) : ∀ j, j < M → (K j = 0 ∨ K j = 1) ∧ (K j = 1 ↔ 1 ≤ j ∧ ∃ a, a < i + 1 ∧ nbh z 7 (R a) 0 1 = j) := by
  intro j hj
  refine ⟨(h j hj).1, (h j hj).2.trans ⟨fun ⟨h0, a, h1, h2⟩ => ⟨h0, a, by omega, h2⟩, fun ⟨h0, a, h1, h2⟩ => ⟨h0, ?_⟩⟩⟩
  by_cases e : a = i
  · subst e; exfalso; omega
  · exact ⟨a, by omega, h2⟩
theorem tk_step {z : Int} {R K : Nat → Int} {M i : Nat} {v : Int} (h : ∀ j, j < M → (K j = 0 ∨ K j = 1) ∧ (K j = 1 ↔ 1 ≤ j ∧ ∃ a, a < i ∧ nbh z 7 (R a) 0 1 = j)) (hv : v = nbh z 7 (R i) 0 1) (hb : 1 ≤ v) : ∀ j, j < M → ((uZ K v.toNat 1) j = 0 ∨ (uZ K v.toNat 1) j = 1) ∧ ((uZ K v.toNat 1) j = 1 ↔ 1 ≤ j ∧ ∃ a, a < i + 1 ∧ nbh z 7 (R a) 0 1 = j) := by
  intro j hj
  by_cases e : j = v.toNat
  · subst e
    rw [uZ_s]
    exact ⟨Or.inr rfl, fun _ => ⟨by omega, i, by omega, by omega⟩, fun _ => rfl⟩
  · rw [uZ_n e]
    refine ⟨(h j hj).1, (h j hj).2.trans ⟨fun ⟨h0, a, h1, h2⟩ => ⟨h0, a, by omega, h2⟩, fun ⟨h0, a, h1, h2⟩ => ⟨h0, ?_⟩⟩⟩
    by_cases e2 : a = i
    · subst e2; exfalso; omega
    · exact ⟨a, by omega, h2⟩
