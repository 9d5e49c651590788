-- what is copied when a term is contracted
theorem rng_succ (a m : Nat) : List.range' a (m + 1) = List.range' a m ++ [a + m] := by
  rw [List.range'_concat]; simp
def seg (f g : Nat → Int) (a m : Nat) : List (Int × Int) := (List.range' a m).map (fun j => (f j, g j))
theorem seg_succ (f g : Nat → Int) (a m : Nat) : seg f g a (m + 1) = seg f g a m ++ [(f (a + m), g (a + m))] := by unfold seg; rw [rng_succ]; simp
theorem seg_0 (f g : Nat → Int) (a : Nat) : seg f g a 0 = [] := rfl
theorem seg_len (f g : Nat → Int) (a m : Nat) : (seg f g a m).length = m := by simp [seg]
/-- is node j a use of binder b's variable -/
abbrev isUse (f g : Nat → Int) (b j : Nat) : Prop := f j = 0 ∧ g j = (dep f j : Int) - ((dep f b : Int) + 1)
def uCnt (f g : Nat → Int) (b lo m : Nat) : Nat := (List.range' lo m).countP (fun j => decide (isUse f g b j))
theorem uCnt_0 (f g : Nat → Int) (b lo : Nat) : uCnt f g b lo 0 = 0 := rfl
theorem uCnt_succ (f g : Nat → Int) (b lo m : Nat) : uCnt f g b lo (m + 1) = uCnt f g b lo m + (if isUse f g b (lo + m) then 1 else 0) := by
  unfold uCnt; rw [rng_succ, List.countP_append]; simp [List.countP_cons]
theorem uCnt_le (f g : Nat → Int) (b lo m : Nat) : uCnt f g b lo m ≤ m := by
  unfold uCnt
  have := List.countP_le_length (p := fun j => decide (isUse f g b j)) (l := List.range' lo m)
  simpa using this
/-- the value's nodes, with what is bound outside it d deeper -/
def vN (f g : Nat → Int) (v : Nat) (d : Int) (i : Nat) : Int × Int := (f i, if f i = 0 ∧ (dep f i : Int) - dep f v ≤ g i then g i + d else g i)
def vL (f g : Nat → Int) (v m : Nat) (d : Int) : List (Int × Int) := (List.range' v m).map (vN f g v d)
theorem vL_succ (f g : Nat → Int) (v m : Nat) (d : Int) : vL f g v (m + 1) d = vL f g v m d ++ [vN f g v d (v + m)] := by unfold vL; rw [rng_succ]; simp
theorem vL_len (f g : Nat → Int) (v m : Nat) (d : Int) : (vL f g v m d).length = m := by simp [vL]
/-- what node j of binder b's last part becomes -/
def nL (f g : Nat → Int) (b v vs j : Nat) : List (Int × Int) := if f j ≠ 0 ∨ g j < (dep f j : Int) - ((dep f b : Int) + 1) then [(f j, g j)] else if g j = (dep f j : Int) - ((dep f b : Int) + 1) then vL f g v vs ((dep f j : Int) - ((dep f b : Int) + 1)) else [(0, g j - 1)]
def bL (f g : Nat → Int) (b v vs lo m : Nat) : List (Int × Int) := (List.range' lo m).flatMap (nL f g b v vs)
theorem bL_succ (f g : Nat → Int) (b v vs lo m : Nat) : bL f g b v vs lo (m + 1) = bL f g b v vs lo m ++ nL f g b v vs (lo + m) := by unfold bL; rw [rng_succ]; simp
theorem bL_mono (f g : Nat → Int) (b v vs lo : Nat) : ∀ m k, (bL f g b v vs lo m).length ≤ (bL f g b v vs lo (m + k)).length
  | m, 0 => Nat.le_refl _
  | m, k + 1 => by
    have := bL_mono f g b v vs lo m k
    rw [← Nat.add_assoc, bL_succ, List.length_append]
    omega
theorem bL_len (f g : Nat → Int) (b v vs lo : Nat) (hv : 1 ≤ vs) : ∀ m, ((bL f g b v vs lo m).length : Int) = m + uCnt f g b lo m * ((vs : Int) - 1)
  | 0 => by simp [bL, uCnt]
  | m + 1 => by
    rw [bL_succ, List.length_append, Int.natCast_add, bL_len f g b v vs lo hv m, uCnt_succ]
    by_cases h : isUse f g b (lo + m)
    · rw [if_pos h]
      have : nL f g b v vs (lo + m) = vL f g v vs ((dep f (lo + m) : Int) - ((dep f b : Int) + 1)) := by
        unfold nL; rw [if_neg (by have := h.1; have := h.2; omega), if_pos h.2]
      rw [this, vL_len, Int.natCast_add, Int.natCast_add, Int.add_mul]
      simp; omega
    · rw [if_neg h]
      have : (nL f g b v vs (lo + m)).length = 1 := by
        unfold nL
        split
        · rfl
        · rw [if_neg (fun q => h ⟨by omega, q⟩)]; rfl
      rw [this]; simp; omega
theorem nL_1 {f g : Nat → Int} {b v vs j : Nat} (h : f j ≠ 0 ∨ g j < (dep f j : Int) - ((dep f b : Int) + 1)) : nL f g b v vs j = [(f j, g j)] := by unfold nL; rw [if_pos h]
theorem nL_2 {f g : Nat → Int} {b v vs j : Nat} (h0 : f j = 0) (h : g j = (dep f j : Int) - ((dep f b : Int) + 1)) : nL f g b v vs j = vL f g v vs ((dep f j : Int) - ((dep f b : Int) + 1)) := by unfold nL; rw [if_neg (by omega), if_pos h]
theorem nL_3 {f g : Nat → Int} {b v vs j : Nat} (h0 : f j = 0) (h : (dep f j : Int) - ((dep f b : Int) + 1) < g j) : nL f g b v vs j = [(0, g j - 1)] := by unfold nL; rw [if_neg (by omega), if_neg (by omega)]
/-- besides of a term are small, and not negative -/
def tB (ρ : RowT) : Prop := ∀ j, j < rN ρ → 0 ≤ rG ρ j ∧ rG ρ j < 4611686018427387904
def cbl (ρ : RowT) (k : Int) : Int := if 0 ≤ k ∧ k < rN ρ then (if rF ρ k.toNat = 3 then k else if rF ρ k.toNat = 4 ∧ rK ρ (k + 1) = 1 then k + 1 else -1) else -1
def sameR (ρ κ : RowT) : Prop := rN ρ = rN κ ∧ ∀ j, j < rN ρ → rF ρ j = rF κ j ∧ (bP (rF ρ j) ∨ rG ρ j = rG κ j)
theorem rGrow.tr {a b c : RowT} {d1 s1 d2 s2 : Nat} (h : rGrow a b d1 s1) (k : rGrow b c d2 s2) : rGrow a c (d1 + d2) (s1 + s2) := by
  obtain ⟨h1, h2, h3⟩ := h
  obtain ⟨k1, k2, k3⟩ := k
  exact ⟨by omega, by omega, by omega⟩
theorem mea.sz {ρ : RowT} {σ : Nat → Nat} (h : mea ρ σ) {k : Nat} (hk : k < rN ρ) : rS ρ (k : Int) = σ k := by
  rw [rS_t (by omega)]; exact h.2.2.2 k hk
theorem mea.en {ρ : RowT} {σ : Nat → Nat} (h : mea ρ σ) {k : Nat} (hk : k < rN ρ) : 1 ≤ σ k ∧ k + σ k ≤ rN ρ := ⟨(h.1 k (Nat.zero_le _) hk).1, (h.1 k (Nat.zero_le _) hk).2.1⟩
theorem mea.pt {ρ : RowT} {σ : Nat → Nat} (h : mea ρ σ) {k : Nat} (hk : k < rN ρ) (hp : pP (rF ρ k)) : k + 1 < rN ρ ∧ k + 1 + σ (k + 1) < rN ρ ∧ σ k = 1 + σ (k + 1) + σ (k + 1 + σ (k + 1)) := (h.1 k (Nat.zero_le _) hk).2.2.1 hp
