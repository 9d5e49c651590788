-- what a name means, found by going out
theorem bIdx_at {f g : Nat → Int} {k q : Nat} {pre rest : List Nat} {x : Int} (h : env f k = pre ++ q :: rest) (hne : ∀ y ∈ pre, g y ≠ x) (e : g q = x) : bIdx f g k x = (pre.length : Int) := by
  unfold bIdx
  refine fnd_at (fun j hj => ?_) ?_ ?_
  · show g ((env f k).getD j 0) ≠ x
    rw [h, List.getD_eq_getElem?_getD, List.getElem?_append_left hj, List.getElem?_eq_getElem hj]
    exact hne _ (List.getElem_mem hj)
  · show pre.length < (env f k).length
    rw [h, List.length_append, List.length_cons]; omega
  · show g ((env f k).getD pre.length 0) = x
    rw [h, List.getD_eq_getElem?_getD, List.getElem?_append_right (Nat.le_refl _), Nat.sub_self]
    exact e
theorem bIdx_no {f g : Nat → Int} {k : Nat} {x : Int} (hne : ∀ y ∈ env f k, g y ≠ x) : bIdx f g k x = -1 := by
  unfold bIdx
  refine fnd_none (fun j hj => ?_)
  have hj2 : j < (env f k).length := hj
  show g ((env f k).getD j 0) ≠ x
  rw [List.getD_eq_getElem?_getD, List.getElem?_eq_getElem hj2]
  exact hne _ (List.getElem_mem hj2)
theorem bN_0s {f g : Nat → Int} {un : Nat} {uf : Nat → Int} {k : Nat} (h : f k = 0) (hb : bIdx f g k (g k) ≠ -1) : bN f g un uf k = some (0, bIdx f g k (g k)) := by
  unfold bN; rw [if_pos h, if_pos hb]
theorem bN_0g {f g : Nat → Int} {un : Nat} {uf : Nat → Int} {k : Nat} (h : f k = 0) (hb : bIdx f g k (g k) = -1) (hf : fnd un uf (g k) ≠ -1) : bN f g un uf k = some (7, fnd un uf (g k)) := by
  unfold bN; rw [if_pos h, if_neg (fun q => q hb), if_pos hf]
theorem bN_0n {f g : Nat → Int} {un : Nat} {uf : Nat → Int} {k : Nat} (h : f k = 0) (hb : bIdx f g k (g k) = -1) (hf : fnd un uf (g k) = -1) : bN f g un uf k = none := by
  unfold bN; rw [if_pos h, if_neg (fun q => q hb), if_neg (fun q => q hf)]
theorem bN_b {f g : Nat → Int} {un : Nat} {uf : Nat → Int} {k : Nat} (h : 0 < f k ∧ f k < 4) : bN f g un uf k = some (f k, f4 (g k)) := by
  unfold bN; rw [if_neg (by omega), if_pos (by omega)]
theorem bN_6 {f g : Nat → Int} {un : Nat} {uf : Nat → Int} {k : Nat} (h : f k = 6) : bN f g un uf k = some (2, 0) := by
  unfold bN; rw [if_neg (by omega), if_neg (by omega), if_pos h]
theorem bN_o {f g : Nat → Int} {un : Nat} {uf : Nat → Int} {k : Nat} (h : f k = 4 ∨ f k = 5) : bN f g un uf k = some (f k, g k) := by
  unfold bN; rw [if_neg (by omega), if_neg (by omega), if_neg (by omega)]
theorem bN_pP {f g : Nat → Int} {un : Nat} {uf : Nat → Int} {k : Nat} {a b : Int} (hk : 0 ≤ f k ∧ f k ≤ 6) (h : bN f g un uf k = some (a, b)) : (pP (f k) ↔ pP a) ∧ ((0 ≤ a ∧ a ≤ 5) ∨ a = 7) := by
  unfold bN at h
  split at h
  · split at h
    · obtain ⟨rfl, -⟩ := Prod.mk.inj (Option.some.inj h); omega
    · split at h
      · obtain ⟨rfl, -⟩ := Prod.mk.inj (Option.some.inj h); omega
      · cases h
  · split at h
    · obtain ⟨rfl, -⟩ := Prod.mk.inj (Option.some.inj h); omega
    · split at h
      · obtain ⟨rfl, -⟩ := Prod.mk.inj (Option.some.inj h); omega
      · obtain ⟨rfl, -⟩ := Prod.mk.inj (Option.some.inj h); omega
