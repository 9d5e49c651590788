-- the class's pieces: contents, cells, what holds of them
/-- a Row: its arrays' addresses, count, room, kinds, besides, sizes -/
abbrev RowT : Type := (Nat × Nat × Nat) × Nat × Nat × (Nat → Int) × (Nat → Int) × (Nat → Int)
abbrev rA (ρ : RowT) : Nat × Nat × Nat := ρ.1
abbrev rN (ρ : RowT) : Nat := ρ.2.1
abbrev rC (ρ : RowT) : Nat := ρ.2.2.1
abbrev rF (ρ : RowT) : Nat → Int := ρ.2.2.2.1
abbrev rG (ρ : RowT) : Nat → Int := ρ.2.2.2.2.1
abbrev rH (ρ : RowT) : Nat → Int := ρ.2.2.2.2.2
abbrev rowW (E : gE) (r : Nat) (ρ : RowT) : va_W := [(r, .inr (2, [.ref (rA ρ).1, .ref (rA ρ).2.1, .ref (rA ρ).2.2, .int (iI (rN ρ))])), ((rA ρ).1, aI E (rC ρ) (rF ρ)), ((rA ρ).2.1, aL E (rC ρ) (rG ρ)), ((rA ρ).2.2, aI E (rC ρ) (rH ρ))]
def rowOK (ρ : RowT) : Prop := (rN ρ ≤ 3000 ∧ rN ρ ≤ rC ρ ∧ 16 ≤ rC ρ ∧ rC ρ ≤ 6000) ∧ (∀ j, gin (rF ρ j)) ∧ (∀ j, gil (rG ρ j)) ∧ ∀ j, gin (rH ρ j)
/-- what the reads answer -/
def rK (ρ : RowT) (k : Int) : Int := if 0 ≤ k ∧ k < rN ρ then rF ρ k.toNat else -1
def rB (ρ : RowT) (k : Int) : Int := if 0 ≤ k ∧ k < rN ρ then rG ρ k.toNat else -1
def rS (ρ : RowT) (k : Int) : Int := if 0 ≤ k ∧ k < rN ρ then rH ρ k.toNat else 0
theorem rK_t {ρ : RowT} {k : Int} (h : 0 ≤ k ∧ k < rN ρ) : rK ρ k = rF ρ k.toNat := if_pos h
theorem rK_f {ρ : RowT} {k : Int} (h : ¬ (0 ≤ k ∧ k < rN ρ)) : rK ρ k = -1 := if_neg h
theorem rB_t {ρ : RowT} {k : Int} (h : 0 ≤ k ∧ k < rN ρ) : rB ρ k = rG ρ k.toNat := if_pos h
theorem rB_f {ρ : RowT} {k : Int} (h : ¬ (0 ≤ k ∧ k < rN ρ)) : rB ρ k = -1 := if_neg h
theorem rS_t {ρ : RowT} {k : Int} (h : 0 ≤ k ∧ k < rN ρ) : rS ρ k = rH ρ k.toNat := if_pos h
theorem rS_f {ρ : RowT} {k : Int} (h : ¬ (0 ≤ k ∧ k < rN ρ)) : rS ρ k = 0 := if_neg h
theorem rK_in {ρ : RowT} (h : rowOK ρ) (k : Int) : gin (rK ρ k) := by
  unfold rK; split
  · exact h.2.1 _
  · decide
theorem rB_in {ρ : RowT} (h : rowOK ρ) (k : Int) : gil (rB ρ k) := by
  unfold rB; split
  · exact h.2.2.1 _
  · decide
theorem rS_in {ρ : RowT} (h : rowOK ρ) (k : Int) : gin (rS ρ k) := by
  unfold rS; split
  · exact h.2.2.2 _
  · decide
