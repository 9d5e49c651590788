/-- node k can be contracted: b is the binder that goes away, v the value -/
def cbv (f : Nat → Int) (σ : Nat → Nat) (n k b v : Nat) : Prop := k < n ∧ ((f k = 3 ∧ b = k ∧ v = k + 1) ∨ (f k = 4 ∧ f (k + 1) = 1 ∧ b = k + 1 ∧ v = k + 1 + σ (k + 1)))
def cOut (f g : Nat → Int) (σ : Nat → Nat) (n k b v : Nat) : List (Int × Int) := seg f g 0 k ++ bL f g b v (σ v) (b + 1 + σ (b + 1)) (σ (b + 1 + σ (b + 1))) ++ seg f g (k + σ k) (n - (k + σ k))
theorem mulb {a b : Nat} (ha : a ≤ 3000) (h1 : 1 ≤ b) (hb : b ≤ 3000) : 0 ≤ (a : Int) * ((b : Int) - 1) ∧ (a : Int) * ((b : Int) - 1) ≤ 9000000 := by
  obtain ⟨c, rfl⟩ : ∃ c, b = c + 1 := ⟨b - 1, by omega⟩
  have e : ((c + 1 : Nat) : Int) - 1 = (c : Int) := by omega
  rw [e, ← Int.natCast_mul]
  have := Nat.mul_le_mul ha (show c ≤ 3000 by omega)
  omega
theorem cbl_of {ρ : RowT} {k : Int} {σ : Nat → Nat} (hm : rN ρ = 0 ∨ mea ρ σ) (h : cbl ρ k ≠ -1) : ∃ kn b v : Nat, k = kn ∧ cbl ρ k = b ∧ cbv (rF ρ) σ (rN ρ) kn b v ∧ b < rN ρ ∧ bP (rF ρ b) ∧ v < rN ρ ∧ mea ρ σ := by
  unfold cbl at h
  by_cases h1 : 0 ≤ k ∧ k < rN ρ
  · rw [if_pos h1] at h
    obtain ⟨kn, rfl⟩ : ∃ kn : Nat, k = kn := ⟨k.toNat, by omega⟩
    have hm : mea ρ σ := by
      rcases hm with hm | hm
      · omega
      · exact hm
    have hk : kn < rN ρ := by omega
    have e0 : ((kn : Int)).toNat = kn := by omega
    rw [e0] at h
    by_cases h3 : rF ρ kn = 3
    · refine ⟨kn, kn, kn + 1, rfl, ?_, ⟨hk, Or.inl ⟨h3, rfl, rfl⟩⟩, hk, by omega, (hm.pt hk (by omega)).1, hm⟩
      unfold cbl; rw [if_pos h1, e0, if_pos h3]
    · rw [if_neg h3] at h
      by_cases h4 : rF ρ kn = 4 ∧ rK ρ ((kn : Int) + 1) = 1
      · obtain ⟨z1, z2, z3⟩ := hm.pt hk (by omega)
        have e1 : rK ρ ((kn : Int) + 1) = rF ρ (kn + 1) := by rw [rK_t (by omega)]; congr 1
        refine ⟨kn, kn + 1, kn + 1 + σ (kn + 1), rfl, ?_, ⟨hk, Or.inr ⟨h4.1, by rw [← e1]; exact h4.2, rfl, rfl⟩⟩, z1, by rw [← e1]; exact Or.inl h4.2, z2, hm⟩
        unfold cbl; rw [if_pos h1, e0, if_neg h3, if_pos h4]; omega
      · rw [if_neg h4] at h; exact absurd rfl h
  · rw [if_neg h1] at h; exact absurd rfl h
def usesR (ρ : RowT) (σ : Nat → Nat) (k : Int) : Int := if 0 ≤ k ∧ k < rN ρ ∧ bP (rF ρ k.toNat) then uCnt (rF ρ) (rG ρ) k.toNat (k.toNat + 1 + σ (k.toNat + 1)) (σ (k.toNat + 1 + σ (k.toNat + 1))) else -1
/-- what a new term is, when it is just one -/
def newT (ρ ρ0 : RowT) : Prop := rN ρ = rN ρ0 ∧ rC ρ = rC ρ0 ∧ rF ρ = rF ρ0 ∧ rG ρ = rG ρ0 ∧ (OneT (rN ρ0) (rF ρ0) → ∃ σ, mea ρ σ)
theorem cOut_len {f g : Nat → Int} {σ : Nat → Nat} {n k b v : Nat} (hv : 1 ≤ σ v) (hk : k + σ k ≤ n) : ((cOut f g σ n k b v).length : Int) = (n : Int) - σ k + σ (b + 1 + σ (b + 1)) + uCnt f g b (b + 1 + σ (b + 1)) (σ (b + 1 + σ (b + 1))) * ((σ v : Int) - 1) := by
  unfold cOut
  rw [List.length_append, List.length_append, seg_len, seg_len, Int.natCast_add, Int.natCast_add, bL_len f g b v (σ v) _ hv]
  omega
