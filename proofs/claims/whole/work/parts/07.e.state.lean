/-- the globals: the array's address, count, names -/
abbrev GlT : Type := Nat × Nat × (Nat → Int)
abbrev uN (γ : GlT) : Nat := γ.2.1
abbrev uF (γ : GlT) : Nat → Int := γ.2.2
abbrev glW (E : gE) (g : Nat) (γ : GlT) : va_W := [(g, .inr (0, [.ref γ.1, .int (iI (uN γ))])), (γ.1, aL E 200 (uF γ))]
def glOK (γ : GlT) : Prop := uN γ ≤ 200 ∧ ∀ j, gil (uF γ j)
/-- where a name stands first, or -1 -/
def fnd (n : Nat) (f : Nat → Int) (x : Int) : Int := match (List.range n).find? (fun j => decide (f j = x)) with
  | some j => (j : Int)
  | none => -1
theorem fnd_none {n : Nat} {f : Nat → Int} {x : Int} (h : ∀ j, j < n → f j ≠ x) : fnd n f x = -1 := by
  unfold fnd
  have : (List.range n).find? (fun j => decide (f j = x)) = none := by
    rw [List.find?_eq_none]
    intro j hj
    have := h j (List.mem_range.mp hj)
    simpa using this
  rw [this]
theorem fnd_at {n g : Nat} {f : Nat → Int} {x : Int} (h : ∀ j, j < g → f j ≠ x) (hg : g < n) (e : f g = x) : fnd n f x = g := by
  unfold fnd
  have : (List.range n).find? (fun j => decide (f j = x)) = some g := by
    rw [List.find?_range_eq_some]
    refine ⟨by simpa using e, by simpa using hg, fun j hj => ?_⟩
    have := h j hj
    simpa using this
  rw [this]
theorem fnd_cases (n : Nat) (f : Nat → Int) (x : Int) : (fnd n f x = -1 ∧ ∀ j, j < n → f j ≠ x) ∨ ∃ g : Nat, fnd n f x = g ∧ g < n ∧ f g = x ∧ ∀ j, j < g → f j ≠ x := by
  by_cases h : ∃ j, j < n ∧ f j = x
  · obtain ⟨g, ⟨h1, h2⟩, h3⟩ := pk_least (fun j => j < n ∧ f j = x) h
    have h4 : ∀ j, j < g → f j ≠ x := fun j hj q => h3 j hj ⟨by omega, q⟩
    exact Or.inr ⟨g, fnd_at h4 h1 h2, h1, h2, h4⟩
  · have h4 : ∀ j, j < n → f j ≠ x := fun j hj q => h ⟨j, hj, q⟩
    exact Or.inl ⟨fnd_none h4, h4⟩
theorem fnd_in (n : Nat) (f : Nat → Int) (x : Int) : -1 ≤ fnd n f x ∧ fnd n f x < n := by
  rcases fnd_cases n f x with h | ⟨g, h1, h2, -⟩ <;> omega
theorem fnd_congr {n : Nat} {f g : Nat → Int} (h : ∀ j, j < n → f j = g j) (x : Int) : fnd n f x = fnd n g x := by
  rcases fnd_cases n g x with ⟨h1, h2⟩ | ⟨k, h1, h2, h3, h4⟩
  · rw [h1]; exact fnd_none (fun j hj => by rw [h j hj]; exact h2 j hj)
  · rw [h1]; exact fnd_at (fun j hj => by rw [h j (by omega)]; exact h4 j hj) h2 (by rw [h k h2]; exact h3)
/-- the scopes: arrays' addresses, count, room, innermost, depths, those that stand open -/
abbrev ScT : Type := (Nat × Nat × Nat) × Nat × Nat × (Nat → Int) × (Nat → Int) × (Nat → Int)
abbrev sA (ς : ScT) : Nat × Nat × Nat := ς.1
abbrev sN (ς : ScT) : Nat := ς.2.1
abbrev sC (ς : ScT) : Nat := ς.2.2.1
abbrev sI (ς : ScT) : Nat → Int := ς.2.2.2.1
abbrev sD (ς : ScT) : Nat → Int := ς.2.2.2.2.1
abbrev sO (ς : ScT) : Nat → Int := ς.2.2.2.2.2
abbrev scW (E : gE) (s : Nat) (ς : ScT) : va_W := [(s, .inr (3, [.int (iI (sN ς)), .ref (sA ς).1, .ref (sA ς).2.1, .ref (sA ς).2.2])), ((sA ς).1, aI E (sC ς) (sI ς)), ((sA ς).2.1, aI E (sC ς) (sD ς)), ((sA ς).2.2, aI E (sC ς) (sO ς))]
def scOK (ς : ScT) : Prop := (sN ς ≤ 3000 ∧ sN ς ≤ sC ς ∧ 16 ≤ sC ς ∧ sC ς ≤ 6000) ∧ (∀ j, gin (sI ς j)) ∧ (∀ j, 0 ≤ sD ς j ∧ sD ς j ≤ 3000) ∧ ∀ j, gin (sO ς j)
def zD (ς : ScT) (k : Int) : Int := if 0 ≤ k ∧ k < sN ς then sD ς k.toNat else 0
def zI (ς : ScT) (k : Int) : Int := if 0 ≤ k ∧ k < sN ς then sI ς k.toNat else -1
def zO (ς : ScT) (p : Int) : Int := if 0 ≤ p ∧ p < sC ς then sO ς p.toNat else -1
theorem zD_t {ς : ScT} {k : Int} (h : 0 ≤ k ∧ k < sN ς) : zD ς k = sD ς k.toNat := if_pos h
theorem zD_f {ς : ScT} {k : Int} (h : ¬ (0 ≤ k ∧ k < sN ς)) : zD ς k = 0 := if_neg h
theorem zI_t {ς : ScT} {k : Int} (h : 0 ≤ k ∧ k < sN ς) : zI ς k = sI ς k.toNat := if_pos h
theorem zI_f {ς : ScT} {k : Int} (h : ¬ (0 ≤ k ∧ k < sN ς)) : zI ς k = -1 := if_neg h
theorem zO_t {ς : ScT} {k : Int} (h : 0 ≤ k ∧ k < sC ς) : zO ς k = sO ς k.toNat := if_pos h
theorem zO_f {ς : ScT} {k : Int} (h : ¬ (0 ≤ k ∧ k < sC ς)) : zO ς k = -1 := if_neg h
theorem zD_in {ς : ScT} (h : scOK ς) (k : Int) : 0 ≤ zD ς k ∧ zD ς k ≤ 3000 := by
  unfold zD; split
  · exact h.2.2.1 _
  · decide
theorem zI_in {ς : ScT} (h : scOK ς) (k : Int) : gin (zI ς k) := by
  unfold zI; split
  · exact h.2.1 _
  · decide
theorem zO_in {ς : ScT} (h : scOK ς) (k : Int) : gin (zO ς k) := by
  unfold zO; split
  · exact h.2.2.2 _
  · decide
def sGrow (ς ς' : ScT) (dc ds : Nat) : Prop := sC ς ≤ sC ς' ∧ dc ≤ sC ς' - sC ς ∧ ds ≤ 6 * (sC ς' - sC ς)
theorem sGrow.rf (ς : ScT) : sGrow ς ς 0 0 := ⟨Nat.le_refl _, by omega, by omega⟩
theorem scOK.u {ς : ScT} (h : scOK ς) {n : Nat} {i d o : Nat → Int} (hn : n ≤ 3000 ∧ n ≤ sC ς) (hi : ∀ j, gin (i j)) (hd : ∀ j, 0 ≤ d j ∧ d j ≤ 3000) (ho : ∀ j, gin (o j)) : scOK (sA ς, n, sC ς, i, d, o) := ⟨⟨hn.1, hn.2, h.1.2.2.1, h.1.2.2.2⟩, hi, hd, ho⟩
/-- what enter writes -/
def enO (ς : ScT) (k : Int) : Nat → Int := if 0 ≤ zD ς k - 1 ∧ zD ς k - 1 < sC ς then uZ (sO ς) (zD ς k - 1).toNat (zI ς k) else sO ς
theorem gin0 : gin 0 := ⟨by decide, by decide⟩
