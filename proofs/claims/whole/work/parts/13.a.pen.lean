/-- the pen: arrays' addresses, room, next, latest, near, taken, how many are near -/
abbrev PnT : Type := (Nat × Nat × Nat × Nat) × Nat × (Nat → Int) × (Nat → Int) × (Nat → Int) × (Nat → Int) × Nat
abbrev pA (π : PnT) : Nat × Nat × Nat × Nat := π.1
abbrev pC (π : PnT) : Nat := π.2.1
abbrev pX (π : PnT) : Nat → Int := π.2.2.1
abbrev pL (π : PnT) : Nat → Int := π.2.2.2.1
abbrev pR (π : PnT) : Nat → Int := π.2.2.2.2.1
abbrev pK (π : PnT) : Nat → Int := π.2.2.2.2.2.1
abbrev pM (π : PnT) : Nat := π.2.2.2.2.2.2
abbrev pnW (E : gE) (n s : Nat) (π : PnT) : va_W := [(n, .inr (1, [.ref s, .ref (pA π).1, .ref (pA π).2.1, .ref (pA π).2.2.1, .ref (pA π).2.2.2, .int (iI (pM π))])), ((pA π).1, aI E (pC π) (pX π)), ((pA π).2.1, aI E (pC π) (pL π)), ((pA π).2.2.1, aL E (pC π) (pR π)), ((pA π).2.2.2, aZ E (pC π) (pK π))]
def pnOK (π : PnT) : Prop := (216 ≤ pC π ∧ pC π ≤ 6400 ∧ pM π ≤ pC π) ∧ (∀ j, gin (pX π j)) ∧ (∀ j, gin (pL π j)) ∧ (∀ j, gil (pR π j)) ∧ ∀ j, gin (pK π j)
def pX0 (π : PnT) (q : Int) : Int := if 0 ≤ q ∧ q < pC π then pX π q.toNat else 3000
theorem pX0_t {π : PnT} {q : Int} (h : 0 ≤ q ∧ q < pC π) : pX0 π q = pX π q.toNat := if_pos h
theorem pX0_f {π : PnT} {q : Int} (h : ¬ (0 ≤ q ∧ q < pC π)) : pX0 π q = 3000 := if_neg h
theorem pX0_in {π : PnT} (h : pnOK π) (q : Int) : gin (pX0 π q) := by
  unfold pX0; split
  · exact h.2.1 _
  · decide
def pGrow (π π' : PnT) (dc ds : Nat) : Prop := pC π ≤ pC π' ∧ dc ≤ pC π' - pC π ∧ ds ≤ 8 * (pC π' - pC π)
theorem pGrow.rf (π : PnT) : pGrow π π 0 0 := ⟨Nat.le_refl _, by omega, by omega⟩
theorem pnOK.u {π : PnT} (h : pnOK π) {m : Nat} {x y z u : Nat → Int} (hm : m ≤ pC π) (hx : ∀ j, gin (x j)) (hy : ∀ j, gin (y j)) (hz : ∀ j, gil (z j)) (hu : ∀ j, gin (u j)) : pnOK (pA π, pC π, x, y, z, u, m) := ⟨⟨h.1.1, h.1.2.1, hm⟩, hx, hy, hz, hu⟩
/-- the place of what node k uses, or -1 -/
def useP (f g : Nat → Int) (k : Nat) : Int := if f k = 7 then g k else if f k = 0 then 200 + ((env f k).getD (g k).toNat 0 : Nat) else -1
/-- node k is closed: its index is that of a binder around it, its number that of a global -/
def clo (f g : Nat → Int) (un k : Nat) : Prop := (f k = 0 → 0 ≤ g k ∧ g k < dep f k) ∧ (f k = 7 → 0 ≤ g k ∧ g k < un)
