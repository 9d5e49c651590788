-- just one term: by the height of the stack
theorem stk_up {f : Nat → Int} {k : Nat} (h : stk f k ≠ []) (hp : pP (f k)) : (stk f (k + 1)).length = (stk f k).length + 1 := by
  cases hs : stk f k with
  | nil => exact absurd hs h
  | cons e r => rw [stk_p hs hp]; rfl
theorem stk_dn {f : Nat → Int} {k : Nat} (h : stk f k ≠ []) (hp : ¬ pP (f k)) : (stk f (k + 1)).length + 1 = (stk f k).length := by
  cases hs : stk f k with
  | nil => exact absurd hs h
  | cons e r => rw [stk_l hs hp]; rfl
/-- the first place behind k where the stack is lower -/
theorem end_of {f : Nat → Int} {n : Nat} (hne : ∀ k, k < n → stk f k ≠ []) (h0 : stk f n = []) {k : Nat} (hk : k < n) : ∃ j, (k < j ∧ j ≤ n ∧ (stk f j).length + 1 = (stk f k).length) ∧ ∀ i, k < i → i < j → (stk f k).length ≤ (stk f i).length := by
  have hl : 1 ≤ (stk f k).length := by
    cases hs : stk f k with
    | nil => exact absurd hs (hne k hk)
    | cons e r => simp
  obtain ⟨j, ⟨h1, h2, h3⟩, h4⟩ := pk_least (fun j => k < j ∧ j ≤ n ∧ (stk f j).length < (stk f k).length) ⟨n, hk, Nat.le_refl _, by rw [h0]; exact hl⟩
  have h5 : ∀ i, k < i → i < j → (stk f k).length ≤ (stk f i).length := fun i g1 g2 => by
    have := h4 i g2
    have : ¬ (stk f i).length < (stk f k).length := fun z => this ⟨g1, by omega, z⟩
    omega
  refine ⟨j, ⟨h1, h2, ?_⟩, h5⟩
  obtain ⟨i, rfl⟩ : ∃ i, j = i + 1 := ⟨j - 1, by omega⟩
  have hi : (stk f k).length ≤ (stk f i).length := by
    by_cases e : i = k
    · subst e; exact Nat.le_refl _
    · exact h5 i (by omega) (by omega)
  have hin : stk f i ≠ [] := hne i (by omega)
  by_cases hp : pP (f i)
  · have := stk_up hin hp; omega
  · have := stk_dn hin hp; omega
theorem OneT_stk {n : Nat} {f : Nat → Int} : OneT n f ↔ (∀ k, k < n → stk f k ≠ []) ∧ stk f n = [] := by
  constructor
  · intro ⟨h0, σ, hz, e⟩
    refine ⟨fun k hk q => ?_, ?_⟩
    · obtain ⟨r, hr⟩ := stk_at hz e hk
      rw [hr] at q; cases q
    · have := (stk_end hz _ 0 rfl h0 [] [] rfl).1
      rw [e, Nat.zero_add] at this
      exact this
  · intro ⟨hne, h0⟩
    have hn : 0 < n := by
      cases n with
      | zero => cases h0
      | succ n => omega
    obtain ⟨en, hen⟩ : ∃ en : Nat → Nat, ∀ k, k < n → (k < en k ∧ en k ≤ n ∧ (stk f (en k)).length + 1 = (stk f k).length) ∧ ∀ i, k < i → i < en k → (stk f k).length ≤ (stk f i).length := by
      refine ⟨fun k => if h : k < n then (end_of hne h0 h).choose else 0, fun k hk => ?_⟩
      dsimp only
      rw [show (if h : k < n then (end_of hne h0 h).choose else 0) = (end_of hne h0 hk).choose from dif_pos hk]
      exact (end_of hne h0 hk).choose_spec
    -- the end is one place
    have un : ∀ k j, k < n → k < j → (stk f j).length < (stk f k).length → (∀ i, k < i → i < j → (stk f k).length ≤ (stk f i).length) → en k = j := by
      intro k j hk h1 h2 h3
      obtain ⟨⟨g1, g2, g3⟩, g4⟩ := hen k hk
      rcases Nat.lt_trichotomy (en k) j with z | z | z
      · have := h3 (en k) g1 z; omega
      · exact z
      · have := g4 j h1 z; omega
    refine ⟨hn, fun k => en k - k, fun k _ hk => ?_, ?_⟩
    · obtain ⟨⟨g1, g2, g3⟩, g4⟩ := hen k hk
      refine ⟨by show 1 ≤ en k - k; omega, by show k + (en k - k) ≤ n; omega, fun hp => ?_, fun hp => ?_⟩
      · have u1 := stk_up (hne k hk) hp
        have k1 : k + 1 < n := by
          rcases Nat.lt_or_ge (k + 1) n with z | z
          · exact z
          · have : k + 1 = n := by omega
            rw [this, h0] at u1; simp at u1
        obtain ⟨⟨a1, a2, a3⟩, a4⟩ := hen (k + 1) k1
        have hs : en (k + 1) < n := by
          rcases Nat.lt_or_ge (en (k + 1)) n with z | z
          · exact z
          · have e9 : en (k + 1) = n := by omega
            rw [e9, h0] at a3
            have : (stk f k).length = 0 := by simp at a3; omega
            exact absurd (List.length_eq_zero_iff.mp this) (hne k hk)
        obtain ⟨⟨b1, b2, b3⟩, b4⟩ := hen (en (k + 1)) hs
        have e2 : en k = en (en (k + 1)) := by
          refine un k _ hk (by omega) (by omega) (fun i c1 c2 => ?_)
          rcases Nat.lt_trichotomy i (en (k + 1)) with z | z | z
          · by_cases e : i = k + 1
            · subst e; omega
            · have := a4 i (by omega) z; omega
          · subst z; omega
          · have := b4 i z c2; omega
        have e3 : k + 1 + (en (k + 1) - (k + 1)) = en (k + 1) := by omega
        refine ⟨k1, by show k + 1 + (en (k + 1) - (k + 1)) < n; rw [e3]; exact hs, ?_⟩
        show en k - k = 1 + (en (k + 1) - (k + 1)) + (en (k + 1 + (en (k + 1) - (k + 1))) - (k + 1 + (en (k + 1) - (k + 1))))
        rw [e3, e2]; omega
      · have u1 := stk_dn (hne k hk) hp
        have : en k = k + 1 := un k (k + 1) hk (by omega) (by omega) (fun i c1 c2 => by omega)
        show en k - k = 1
        omega
    · have : en 0 = n := un 0 n hn hn (by rw [h0]; show 0 < (stk f 0).length; simp [stk]) (fun i c1 c2 => by
        have : stk f i ≠ [] := hne i c2
        have h1 : (stk f 0).length = 1 := rfl
        cases hs : stk f i with
        | nil => exact absurd hs this
        | cons a b => rw [h1]; simp)
      show en 0 - 0 = n
      omega
