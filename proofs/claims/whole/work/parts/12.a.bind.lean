-- laying and binding
def okBes (k z : Int) : Prop := (0 ≤ k ∧ k ≤ 3 ∧ okName z) ∨ (k = 5 ∧ 0 ≤ z ∧ z ≤ 100) ∨ ((k = 4 ∨ k = 6) ∧ z = 0)
theorem okBes_n {k z : Int} (h : 0 ≤ k ∧ k ≤ 3) : okName z ↔ okBes k z := ⟨fun q => Or.inl ⟨h.1, h.2, q⟩, fun q => by
  rcases q with q | q | q
  · exact q.2.2
  · omega
  · omega⟩
theorem okBes_5 {z : Int} : (0 ≤ z ∧ z ≤ 100) ↔ okBes 5 z := ⟨fun q => Or.inr (Or.inl ⟨rfl, q⟩), fun q => by
  rcases q with q | q | q
  · omega
  · exact q.2
  · omega⟩
theorem okBes_46 {k z : Int} (h : k = 4 ∨ k = 6) : z = 0 ↔ okBes k z := ⟨fun q => Or.inr (Or.inr ⟨h, q⟩), fun q => by
  rcases q with q | q | q
  · omega
  · omega
  · exact q.2⟩
theorem okBes_o {k z : Int} (h : k < 0 ∨ 6 < k) : ¬ okBes k z := fun q => by
  rcases q with q | q | q <;> omega
/-- the binder's index that a name means at node k, or -1 -/
def bIdx (f g : Nat → Int) (k : Nat) (x : Int) : Int := fnd (dep f k) (fun i => g ((env f k).getD i 0)) x
def bN (f g : Nat → Int) (un : Nat) (uf : Nat → Int) (k : Nat) : Option (Int × Int) :=
  if f k = 0 then (if bIdx f g k (g k) ≠ -1 then some (0, bIdx f g k (g k)) else if fnd un uf (g k) ≠ -1 then some (7, fnd un uf (g k)) else none)
  else if f k = 1 ∨ f k = 2 ∨ f k = 3 then some (f k, f4 (g k)) else if f k = 6 then some (2, 0) else some (f k, g k)
def nB (ρ : RowT) : Prop := ∀ j, j < rN ρ → 0 ≤ rG ρ j
def kB (ρ : RowT) : Prop := ∀ j, j < rN ρ → 0 ≤ rF ρ j ∧ rF ρ j ≤ 6
theorem f4_in {z : Int} (h : 0 ≤ z) (h2 : gil z) : 0 ≤ f4 z ∧ f4 z < 4294967296 := by
  unfold f4; repeat' split
  all_goals omega
/-- what stands open is the environment of node k -/
theorem scFor.op {ς : ScT} {ρ : RowT} (hok : scOK ς) (h : scFor ς ρ) {σ : Nat → Nat} (hm : mea ρ σ) {k : Nat} (hk : k < rN ρ) (hmt : mat (sO ς) (env (rF ρ) k)) {i : Nat} (hi : i < dep (rF ρ) k) : zO ς ((dep (rF ρ) k : Int) - 1 - i) = ((env (rF ρ) k).getD i 0 : Nat) ∧ (env (rF ρ) k).getD i 0 < k := by
  have hle : dep (rF ρ) k ≤ k := env_le hm.1 hm.2.1 hk
  have hc := hok.1.2.1
  have hn := h.1
  have hg : (env (rF ρ) k)[i]? = some ((env (rF ρ) k).getD i 0) := by
    rw [List.getD_eq_getElem?_getD, List.getElem?_eq_getElem hi]; rfl
  have := hmt i _ hg
  constructor
  · rw [zO_t (by omega)]
    have e : ((dep (rF ρ) k : Int) - 1 - i).toNat = (env (rF ρ) k).length - 1 - i := by show (((env (rF ρ) k).length : Int) - 1 - i).toNat = _; omega
    rw [e]; exact this
  · have key : ∀ m k, k ≤ m → k < rN ρ → ∀ b ∈ env (rF ρ) k, b < k := by
      intro m
      induction m with
      | zero =>
        intro k h1 h2 b hb
        have e : k = 0 := by omega
        subst e
        have := env_le hm.1 hm.2.1 h2
        have e2 : env (rF ρ) 0 = [] := List.length_eq_zero_iff.mp (by omega)
        rw [e2] at hb; cases hb
      | succ m ih =>
        intro k h1 h2 b hb
        rcases env_hd hm.1 hm.2.1 h2 with ⟨e1, -⟩ | ⟨c, e1, -, e3, -⟩
        · rw [e1] at hb; cases hb
        · rw [e1] at hb
          rcases List.mem_cons.mp hb with hb | hb
          · omega
          · have := ih c (by omega) (by omega) b hb
            omega
    exact key k k (Nat.le_refl _) hk _ (List.mem_of_getElem? hg)
