-- terms in a row: sizes
/-- a node of this kind has two parts -/
abbrev pP (k : Int) : Prop := k = 1 ∨ k = 2 ∨ k = 3 ∨ k = 6 ∨ k = 4
/-- σ gives, from node m on, how many nodes each has with its parts -/
def Sz (n : Nat) (f : Nat → Int) (σ : Nat → Nat) (m : Nat) : Prop := ∀ j, m ≤ j → j < n → 1 ≤ σ j ∧ j + σ j ≤ n ∧ (pP (f j) → j + 1 < n ∧ j + 1 + σ (j + 1) < n ∧ σ j = 1 + σ (j + 1) + σ (j + 1 + σ (j + 1))) ∧ (¬ pP (f j) → σ j = 1)
def OneT (n : Nat) (f : Nat → Int) : Prop := 0 < n ∧ ∃ σ, Sz n f σ 0 ∧ σ 0 = n
theorem Sz.mono {n m m' : Nat} {f : Nat → Int} {σ : Nat → Nat} (h : Sz n f σ m) (hm : m ≤ m') : Sz n f σ m' := fun j h1 h2 => h j (by omega) h2
theorem Sz.uniq {n m : Nat} {f : Nat → Int} {σ τ : Nat → Nat} (h : Sz n f σ m) (k : Sz n f τ m) : ∀ d j, n - j = d → m ≤ j → j < n → σ j = τ j := by
  intro d
  induction d using Nat.strongRecOn with
  | ind d ih =>
    intro j hd hm hj
    obtain ⟨a1, a2, a3, a4⟩ := h j hm hj
    obtain ⟨b1, b2, b3, b4⟩ := k j hm hj
    by_cases hp : pP (f j)
    · obtain ⟨c1, c2, c3⟩ := a3 hp
      obtain ⟨d1, d2, d3⟩ := b3 hp
      have e1 : σ (j + 1) = τ (j + 1) := ih (n - (j + 1)) (by omega) (j + 1) rfl (by omega) c1
      have e2 : σ (j + 1 + σ (j + 1)) = τ (j + 1 + σ (j + 1)) := ih (n - (j + 1 + σ (j + 1))) (by omega) _ rfl (by omega) c2
      rw [c3, d3, ← e1, e2]
    · rw [a4 hp, b4 hp]
theorem Sz.same {n m : Nat} {f : Nat → Int} {σ τ : Nat → Nat} (h : Sz n f σ m) (k : Sz n f τ m) {j : Nat} (h1 : m ≤ j) (h2 : j < n) : σ j = τ j := h.uniq k _ j rfl h1 h2
theorem Sz.put {n m s : Nat} {f : Nat → Int} {σ : Nat → Nat} (h : Sz n f σ (m + 1)) (h1 : 1 ≤ s) (h2 : m + s ≤ n) (h3 : pP (f m) → m + 1 < n ∧ m + 1 + σ (m + 1) < n ∧ s = 1 + σ (m + 1) + σ (m + 1 + σ (m + 1))) (h4 : ¬ pP (f m) → s = 1) : Sz n f (uZ σ m s) m := by
  intro j hj hn
  by_cases e : j = m
  · subst e
    rw [uZ_s, uZ_n (show j + 1 ≠ j by omega), uZ_n (show j + 1 + σ (j + 1) ≠ j by omega)]
    exact ⟨h1, h2, h3, h4⟩
  · rw [uZ_n e, uZ_n (show j + 1 ≠ m by omega), uZ_n (show j + 1 + σ (j + 1) ≠ m by omega)]
    exact h j (by omega) hn
theorem OneT.not {n m : Nat} {f : Nat → Int} {σ : Nat → Nat} (h : Sz n f σ (m + 1)) (hm : m < n) (hp : pP (f m)) (hb : ¬ (m + 1 < n ∧ m + 1 + σ (m + 1) < n)) : ¬ OneT n f := by
  intro ⟨_, τ, ht, _⟩
  obtain ⟨-, -, c, -⟩ := ht m (by omega) hm
  obtain ⟨c1, c2, -⟩ := c hp
  have e := h.same (ht.mono (Nat.zero_le _)) (Nat.le_refl (m + 1)) c1
  rw [← e] at c2
  exact hb ⟨c1, c2⟩
theorem OneT.iff {n : Nat} {f : Nat → Int} {σ : Nat → Nat} (h : Sz n f σ 0) : OneT n f ↔ 0 < n ∧ σ 0 = n := by
  constructor
  · intro ⟨h0, τ, ht, e⟩
    exact ⟨h0, by rw [h.same ht (Nat.le_refl 0) h0, e]⟩
  · intro ⟨h0, e⟩
    exact ⟨h0, σ, h, e⟩
theorem rL_add {ρ ρ2 : RowT} {k b : Int} (e : rN ρ2 = rN ρ) (h : ∀ j, j < rN ρ → rF ρ2 j = rF ρ j ∧ rG ρ2 j = rG ρ j) : Lr (rN ρ2 + 1) (uZ (rF ρ2) (rN ρ2) k) (uZ (rG ρ2) (rN ρ2) b) = rL ρ ++ [(k, b)] := by
  rw [Lr_succ, uZ_s, uZ_s, e]
  congr 1
  exact Lr_congr fun j hj => by rw [uZ_n (by omega), uZ_n (by omega)]; exact h j hj
theorem rowOK_new (a : Nat × Nat × Nat) : rowOK (a, 0, 16, fun _ => 0, fun _ => 0, fun _ => 0) := ⟨⟨by show (0 : Nat) ≤ 3000; decide, by show (0 : Nat) ≤ 16; decide, by show (16 : Nat) ≤ 16; decide, by show (16 : Nat) ≤ 6000; decide⟩, fun _ => ⟨by show (-2147483648 : Int) ≤ 0; decide, by show (0 : Int) < 2147483648; decide⟩, fun _ => ⟨by show (-9223372036854775808 : Int) ≤ 0; decide, by show (0 : Int) < 9223372036854775808; decide⟩, fun _ => ⟨by show (-2147483648 : Int) ≤ 0; decide, by show (0 : Int) < 2147483648; decide⟩⟩
theorem mz_s {h : Nat → Int} {σ : Nat → Nat} {m n s : Nat} {x : Int} (hs : ∀ j, m + 1 ≤ j → j < n → h j = σ j) (e : x = s) : ∀ j, m ≤ j → j < n → uZ h m x j = ((uZ σ m s j : Nat) : Int) := by
  intro j h1 h2
  by_cases q : j = m
  · subst q; rw [uZ_s, uZ_s]; exact e
  · rw [uZ_n q, uZ_n q]; exact hs j (by omega) h2
theorem uZ_uZ {α : Type} (f : Nat → α) (k : Nat) (x y : α) : uZ (uZ f k x) k y = uZ f k y := by
  funext j; unfold uZ; split <;> rfl
