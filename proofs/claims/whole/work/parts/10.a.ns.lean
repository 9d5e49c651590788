/-- the class's own object: where its pieces are -/
abbrev nsO (x g kp pa la s n te sp : Nat) : va_W := [(x, .inr (4, [.ref g, .ref kp, .ref pa, .ref la, .ref s, .ref n, .ref te, .ref sp]))]
/-- a measured row: σ are its sizes -/
def mea (ρ : RowT) (σ : Nat → Nat) : Prop := Sz (rN ρ) (rF ρ) σ 0 ∧ σ 0 = rN ρ ∧ 0 < rN ρ ∧ ∀ j, j < rN ρ → rH ρ j = σ j
/-- the scopes have read the row -/
def scFor (ς : ScT) (ρ : RowT) : Prop := sN ς = rN ρ ∧ ∀ k, k < rN ρ → sD ς k = (((env (rF ρ) k).length : Nat) : Int) ∧ sI ς k = hd (env (rF ρ) k)
/-- depth by the environment -/
abbrev dep (f : Nat → Int) (k : Nat) : Nat := (env f k).length
theorem scFor.d {ς : ScT} {ρ : RowT} (h : scFor ς ρ) {k : Nat} (hk : k < rN ρ) : zD ς (k : Int) = (dep (rF ρ) k : Int) := by
  rw [zD_t (by have := h.1; omega)]
  exact (h.2 k hk).1
def nodeR (ρ : RowT) (k w : Int) : Int := if 0 ≤ k ∧ k < rN ρ then (if w = 0 then rF ρ k.toNat else if w = 1 then rG ρ k.toNat else if w = 2 then rH ρ k.toNat else -1) else -1
def wrtR (ρ : RowT) (k w : Int) : Int := if 0 ≤ k ∧ k < rN ρ then (if w = 0 then rF ρ k.toNat else if w = 1 then rG ρ k.toNat else -1) else -1
