theorem Lr_put (n : Nat) (D Q : Nat → Int) (a b : Int) : Lr (n + 1) (uZ D n a) (uZ Q n b) = Lr n D Q ++ [(a, b)] := by
  rw [Lr_succ, uZ_s, uZ_s]
  congr 1
  exact Lr_congr (fun j hj => ⟨uZ_n (by omega), uZ_n (by omega)⟩)
theorem vN_t {f g : Nat → Int} {v i : Nat} {d : Int} (h : f i = 0 ∧ (dep f i : Int) - dep f v ≤ g i) : vN f g v d i = (f i, g i + d) := by unfold vN; rw [if_pos h]
theorem vN_f {f g : Nat → Int} {v i : Nat} {d : Int} (h : ¬ (f i = 0 ∧ (dep f i : Int) - dep f v ≤ g i)) : vN f g v d i = (f i, g i) := by unfold vN; rw [if_neg h]
theorem bL_ml (f g : Nat → Int) (b v vs lo : Nat) {i m : Nat} (h : i < m) : (bL f g b v vs lo i).length + (nL f g b v vs (lo + i)).length ≤ (bL f g b v vs lo m).length := by
  have h1 := bL_mono f g b v vs lo (i + 1) (m - (i + 1))
  rw [bL_succ, List.length_append, show i + 1 + (m - (i + 1)) = m by omega] at h1
  exact h1
