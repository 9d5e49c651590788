theorem env_bP {n : Nat} {f : Nat → Int} {σ : Nat → Nat} (hz : Sz n f σ 0) (h0 : σ 0 = n) : ∀ m k, k ≤ m → k < n → ∀ b ∈ env f k, b < k ∧ bP (f b) := by
  intro m
  induction m with
  | zero =>
    intro k h1 h2 b hb
    have e : k = 0 := by omega
    subst e
    have := env_le hz h0 h2
    have e2 : env f 0 = [] := List.length_eq_zero_iff.mp (by omega)
    rw [e2] at hb; cases hb
  | succ m ih =>
    intro k h1 h2 b hb
    rcases env_hd hz h0 h2 with ⟨e1, -⟩ | ⟨c, e1, -, e3, e4⟩
    · rw [e1] at hb; cases hb
    · rw [e1] at hb
      rcases List.mem_cons.mp hb with hb | hb
      · subst hb; exact ⟨e3, e4⟩
      · have := ih c (by omega) (by omega) b hb
        exact ⟨by omega, this.2⟩
theorem env_get {n : Nat} {f : Nat → Int} {σ : Nat → Nat} (hz : Sz n f σ 0) (h0 : σ 0 = n) {k i : Nat} (hk : k < n) (hi : i < dep f k) : (env f k).getD i 0 < k ∧ bP (f ((env f k).getD i 0)) := by
  refine env_bP hz h0 k k (Nat.le_refl _) hk _ ?_
  rw [List.getD_eq_getElem?_getD, List.getElem?_eq_getElem hi]
  exact List.getElem_mem hi
theorem clo_use {n : Nat} {f g : Nat → Int} {σ : Nat → Nat} (hz : Sz n f σ 0) (h0 : σ 0 = n) (hc : ∀ k, k < n → clo f g 200 k) : useOK f (useP f g) n := by
  intro j hj hu
  obtain ⟨c1, c2⟩ := hc j hj
  unfold useP at hu ⊢
  by_cases h7 : f j = 7
  · rw [if_pos h7] at hu ⊢
    have := c2 h7
    exact ⟨Or.inl (by omega), by omega⟩
  · rw [if_neg h7] at hu ⊢
    by_cases h1 : f j = 0
    · rw [if_pos h1] at hu ⊢
      have hg := c1 h1
      obtain ⟨q1, q2⟩ := env_get hz h0 hj (i := (g j).toNat) (by omega)
      exact ⟨Or.inr ⟨(env f j).getD (g j).toNat 0, by omega, by omega, q2⟩, by omega⟩
    · rw [if_neg h1] at hu; omega
theorem useP_in {n : Nat} {f g : Nat → Int} {σ : Nat → Nat} (hz : Sz n f σ 0) (h0 : σ 0 = n) {k : Nat} (hk : k < n) (hc : clo f g 200 k) : -1 ≤ useP f g k ∧ useP f g k < 200 + n := by
  obtain ⟨c1, c2⟩ := hc
  unfold useP
  by_cases h7 : f k = 7
  · rw [if_pos h7]; have := c2 h7; omega
  · rw [if_neg h7]
    by_cases h1 : f k = 0
    · rw [if_pos h1]
      have hg := c1 h1
      obtain ⟨q1, -⟩ := env_get hz h0 hk (i := (g k).toNat) (by omega)
      omega
    · rw [if_neg h1]; omega
theorem lnk_0 {f u : Nat → Int} {n : Nat} {X L : Nat → Int} (hX : ∀ p, p < 200 + n → X p = 3000 ∧ L p = p) : lnk f u n X L 0 := by
  refine ⟨fun q hq => ?_, fun j hj _ => ?_⟩
  · have : q < 200 + n := by
      rcases hq with hq | ⟨b, h1, h2, -⟩ <;> omega
    obtain ⟨h1, h2⟩ := hX q this
    exact ⟨h1, h2⟩
  · rw [(hX (200 + j) (by omega)).1]; rfl
