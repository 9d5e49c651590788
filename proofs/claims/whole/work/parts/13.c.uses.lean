-- the next use of a place
def nxt (u : Nat → Int) (q : Int) : Nat → Nat → Int
  | _, 0 => (3000 : Int)
  | a, m + 1 => if u a = q then (a : Int) else nxt u q (a + 1) m
theorem nxt_none {u : Nat → Int} {q : Int} : ∀ {m a : Nat}, (∀ j, a ≤ j → j < a + m → u j ≠ q) → nxt u q a m = (3000 : Int)
  | 0, _, _ => rfl
  | m + 1, a, h => by
    unfold nxt
    rw [if_neg (h a (Nat.le_refl _) (by omega))]
    exact nxt_none (fun j h1 h2 => h j (by omega) (by omega))
theorem nxt_at {u : Nat → Int} {q : Int} : ∀ {m a j : Nat}, a ≤ j → j < a + m → u j = q → (∀ i, a ≤ i → i < j → u i ≠ q) → nxt u q a m = j
  | 0, _, _, h1, h2, _, _ => by omega
  | m + 1, a, j, h1, h2, h3, h4 => by
    unfold nxt
    by_cases e : a = j
    · subst e; rw [if_pos h3]
    · rw [if_neg (h4 a (Nat.le_refl _) (by omega))]
      exact nxt_at (by omega) (by omega) h3 (fun i g1 g2 => h4 i (by omega) g2)
theorem nxt_cases (u : Nat → Int) (q : Int) (a m : Nat) : (nxt u q a m = (3000 : Int) ∧ ∀ j, a ≤ j → j < a + m → u j ≠ q) ∨ ∃ j : Nat, nxt u q a m = j ∧ a ≤ j ∧ j < a + m ∧ u j = q ∧ ∀ i, a ≤ i → i < j → u i ≠ q := by
  by_cases h : ∃ j, a ≤ j ∧ j < a + m ∧ u j = q
  · obtain ⟨j, ⟨h1, h2, h3⟩, h4⟩ := pk_least (fun j => a ≤ j ∧ j < a + m ∧ u j = q) h
    have h5 : ∀ i, a ≤ i → i < j → u i ≠ q := fun i g1 g2 g3 => h4 i g2 ⟨g1, by omega, g3⟩
    exact Or.inr ⟨j, nxt_at h1 h2 h3 h5, h1, h2, h3, h5⟩
  · have h5 : ∀ j, a ≤ j → j < a + m → u j ≠ q := fun j g1 g2 g3 => h ⟨j, g1, g2, g3⟩
    exact Or.inl ⟨nxt_none h5, h5⟩
theorem nxt_lt {u : Nat → Int} {q : Int} {a m e : Nat} (he : (e : Int) ≤ (3000 : Int)) : nxt u q a m < e ↔ ∃ j, a ≤ j ∧ j < a + m ∧ u j = q ∧ j < e := by
  rcases nxt_cases u q a m with ⟨h1, h2⟩ | ⟨j, h1, h2, h3, h4, h5⟩
  · rw [h1]
    exact ⟨fun h => by omega, fun ⟨j, g1, g2, g3, _⟩ => absurd g3 (h2 j g1 g2)⟩
  · rw [h1]
    refine ⟨fun h => ⟨j, h2, h3, h4, by omega⟩, fun ⟨i, g1, g2, g3, g4⟩ => ?_⟩
    have : ¬ i < j := fun z => h5 i g1 z g3
    omega
theorem nxt_in (u : Nat → Int) (q : Int) {a m : Nat} (h : a + m ≤ 3000) : gin (nxt u q a m) := by
  rcases nxt_cases u q a m with ⟨h1, -⟩ | ⟨j, h1, h2, h3, -⟩
  · rw [h1]; decide
  · rw [h1]; omega
/-- one node more behind -/
theorem nxt_more_n {u : Nat → Int} {q : Int} {a m : Nat} (h : u (a + m) ≠ q) : nxt u q a (m + 1) = nxt u q a m := by
  rcases nxt_cases u q a m with ⟨h1, h2⟩ | ⟨j, h1, h2, h3, h4, h5⟩
  · rw [h1]
    refine nxt_none (fun j g1 g2 => ?_)
    by_cases e : j = a + m
    · subst e; exact h
    · exact h2 j g1 (by omega)
  · rw [h1]; exact nxt_at h2 (by omega) h4 h5
theorem nxt_more_s {u : Nat → Int} {q : Int} {a m : Nat} (h : nxt u q a m ≠ (3000 : Int)) (hm : a + m ≤ 3000) : nxt u q a (m + 1) = nxt u q a m := by
  rcases nxt_cases u q a m with ⟨h1, -⟩ | ⟨j, h1, h2, h3, h4, h5⟩
  · exact absurd h1 h
  · rw [h1]; exact nxt_at h2 (by omega) h4 h5
theorem nxt_more_e {u : Nat → Int} {q : Int} {a m : Nat} (h : nxt u q a m = (3000 : Int)) (hm : a + m ≤ 3000) (e : u (a + m) = q) : nxt u q a (m + 1) = ((a + m : Nat) : Int) := by
  rcases nxt_cases u q a m with ⟨h1, h2⟩ | ⟨j, h1, h2, h3, h4, h5⟩
  · exact nxt_at (by omega) (by omega) e (fun i g1 g2 => h2 i g1 g2)
  · rw [h1] at h; omega
/-- the last use before k, or -1 -/
def lst (u : Nat → Int) (q : Int) : Nat → Int
  | 0 => -1
  | k + 1 => if u k = q then (k : Int) else lst u q k
theorem lst_cases (u : Nat → Int) (q : Int) : ∀ k, (lst u q k = -1 ∧ ∀ j, j < k → u j ≠ q) ∨ ∃ j : Nat, lst u q k = j ∧ j < k ∧ u j = q ∧ ∀ i, j < i → i < k → u i ≠ q
  | 0 => Or.inl ⟨rfl, fun j h => by omega⟩
  | k + 1 => by
    unfold lst
    by_cases e : u k = q
    · rw [if_pos e]; exact Or.inr ⟨k, rfl, by omega, e, fun i h1 h2 => by omega⟩
    · rw [if_neg e]
      rcases lst_cases u q k with ⟨h1, h2⟩ | ⟨j, h1, h2, h3, h4⟩
      · refine Or.inl ⟨h1, fun j hj => ?_⟩
        by_cases z : j = k
        · subst z; exact e
        · exact h2 j (by omega)
      · refine Or.inr ⟨j, h1, by omega, h3, fun i g1 g2 => ?_⟩
        by_cases z : i = k
        · subst z; exact e
        · exact h4 i g1 (by omega)
/-- a place that something can use: a global's, or a binder's -/
def plc (f : Nat → Int) (n : Nat) (q : Nat) : Prop := q < 200 ∨ ∃ b, q = 200 + b ∧ b < n ∧ bP (f b)
/-- the links, when the nodes before k have been linked -/
def lnk (f : Nat → Int) (u : Nat → Int) (n : Nat) (X L : Nat → Int) (k : Nat) : Prop :=
  (∀ q : Nat, plc f n q → X q = nxt u q 0 k ∧ L q = if lst u q k = -1 then (q : Int) else 200 + lst u q k) ∧
  ∀ j, j < n → 0 ≤ u j → X (200 + j) = if j < k then nxt u (u j) (j + 1) (k - (j + 1)) else (3000 : Int)
/-- the links, as they are when node k is at hand -/
def lnp (f : Nat → Int) (u : Nat → Int) (n : Nat) (X : Nat → Int) (k : Nat) : Prop :=
  (∀ q : Nat, plc f n q → X q = nxt u q k (n - k)) ∧ ∀ j, k ≤ j → j < n → 0 ≤ u j → X (200 + j) = nxt u (u j) (j + 1) (n - (j + 1))
/-- what is used is a place, and nodes that use are no binders -/
def useOK (f u : Nat → Int) (n : Nat) : Prop := ∀ j, j < n → 0 ≤ u j → plc f n (u j).toNat ∧ ¬ bP (f j)
theorem plc_ne {f u : Nat → Int} {n : Nat} (hu : useOK f u n) {q j : Nat} (hq : plc f n q) (hj : j < n) (h0 : 0 ≤ u j) : q ≠ 200 + j := by
  intro e
  rcases hq with hq | ⟨b, h1, h2, h3⟩
  · omega
  · have : b = j := by omega
    subst this
    exact (hu b hj h0).2 h3
theorem lnk_end {f u : Nat → Int} {n : Nat} {X L : Nat → Int} (h : lnk f u n X L n) : lnp f u n X 0 :=
  ⟨fun q hq => (h.1 q hq).1, fun j _ hj h0 => by rw [h.2 j hj h0, if_pos hj]⟩
theorem lnk_no {f u : Nat → Int} {n : Nat} {X L : Nat → Int} {k : Nat} (h : lnk f u n X L k) (hk : k < n) (e : u k < 0) : lnk f u n X L (k + 1) := by
  refine ⟨fun q hq => ?_, fun j hj h0 => ?_⟩
  · obtain ⟨h1, h2⟩ := h.1 q hq
    have ne : u k ≠ (q : Int) := by omega
    refine ⟨by rw [h1, nxt_more_n (by simpa using ne)], ?_⟩
    rw [h2]; show _ = if (if u k = q then (k : Int) else lst u q k) = -1 then (q : Int) else 200 + (if u k = q then (k : Int) else lst u q k)
    rw [if_neg ne]
  · rw [h.2 j hj h0]
    have : j ≠ k := fun z => by subst z; omega
    by_cases c : j < k
    · rw [if_pos c, if_pos (by omega), show k + 1 - (j + 1) = k - (j + 1) + 1 by omega, nxt_more_n]
      rw [show j + 1 + (k - (j + 1)) = k by omega]; omega
    · rw [if_neg c, if_neg (by omega)]
theorem lnk_use {f u : Nat → Int} {n : Nat} {X L : Nat → Int} {k : Nat} (hu : useOK f u n) (hn : n ≤ 3000) (h : lnk f u n X L k) (hk : k < n) (e : 0 ≤ u k) : 0 ≤ L (u k).toNat ∧ L (u k).toNat < 200 + n ∧ lnk f u n (uZ X (L (u k).toNat).toNat k) (uZ L (u k).toNat (200 + (k : Int))) (k + 1) := by
  have hp := (hu k hk e).1
  obtain ⟨q0, hq0⟩ : ∃ q0 : Nat, u k = q0 := ⟨(u k).toNat, by omega⟩
  rw [hq0] at hp ⊢
  simp only [Int.toNat_natCast] at hp ⊢
  obtain ⟨x1, x2⟩ := h.1 q0 hp
  have hq200 : q0 < 200 + n := by
    rcases hp with hp | ⟨b, h1, h2, -⟩ <;> omega
  rcases lst_cases u q0 k with ⟨l1, l2⟩ | ⟨j0, l1, l2, l3, l4⟩
  · -- no use yet
    rw [if_pos l1] at x2
    have xn : nxt u q0 0 k = (3000 : Int) := nxt_none (fun j _ g => l2 j (by omega))
    rw [x2]
    refine ⟨by omega, by omega, fun q hq => ?_, fun j hj h0 => ?_⟩
    · simp only [Int.toNat_natCast]
      by_cases eq : q = q0
      · subst eq
        rw [uZ_s, uZ_s]
        refine ⟨by rw [nxt_more_e xn (by omega) (by simpa using hq0)]; simp, ?_⟩
        show _ = if (if u k = q then (k : Int) else lst u q k) = -1 then (q : Int) else 200 + (if u k = q then (k : Int) else lst u q k)
        rw [if_pos hq0, if_neg (by omega)]
      · rw [uZ_n eq, uZ_n eq]
        obtain ⟨y1, y2⟩ := h.1 q hq
        have ne : u k ≠ (q : Int) := by omega
        refine ⟨by rw [y1, nxt_more_n (by simpa using ne)], ?_⟩
        rw [y2]; show _ = if (if u k = q then (k : Int) else lst u q k) = -1 then (q : Int) else 200 + (if u k = q then (k : Int) else lst u q k)
        rw [if_neg ne]
    · simp only [Int.toNat_natCast]
      rw [uZ_n (fun z => plc_ne hu hp hj h0 z.symm), h.2 j hj h0]
      by_cases c : j < k
      · rw [if_pos c, if_pos (by omega), show k + 1 - (j + 1) = k - (j + 1) + 1 by omega]
        have ne : u j ≠ (q0 : Int) := l2 j c
        rw [nxt_more_n]
        rw [show j + 1 + (k - (j + 1)) = k by omega, hq0]; omega
      · rw [if_neg c]
        by_cases z : j = k
        · subst z; rw [if_pos (by omega), show j + 1 - (j + 1) = 0 by omega]; rfl
        · rw [if_neg (by omega)]
  · rw [if_neg (by omega), l1] at x2
    rw [x2]
    have hx0 : nxt u q0 0 k ≠ (3000 : Int) := by
      rcases nxt_cases u q0 0 k with ⟨g1, g2⟩ | ⟨i, g1, g2, g3, -⟩
      · exact absurd l3 (g2 j0 (by omega) (by omega))
      · rw [g1]; omega
    have et : ((200 : Int) + j0).toNat = 200 + j0 := by omega
    rw [et]
    refine ⟨by omega, by omega, fun q hq => ?_, fun j hj h0 => ?_⟩
    · rw [uZ_n (fun z => plc_ne hu hq (by omega) (show 0 ≤ u j0 by omega) z)]
      by_cases eq : q = q0
      · subst eq
        rw [uZ_s]
        refine ⟨by rw [x1, nxt_more_s hx0 (by omega)], ?_⟩
        show _ = if (if u k = q then (k : Int) else lst u q k) = -1 then (q : Int) else 200 + (if u k = q then (k : Int) else lst u q k)
        rw [if_pos hq0, if_neg (by omega)]
      · rw [uZ_n eq]
        obtain ⟨y1, y2⟩ := h.1 q hq
        have ne : u k ≠ (q : Int) := by omega
        refine ⟨by rw [y1, nxt_more_n (by simpa using ne)], ?_⟩
        rw [y2]; show _ = if (if u k = q then (k : Int) else lst u q k) = -1 then (q : Int) else 200 + (if u k = q then (k : Int) else lst u q k)
        rw [if_neg ne]
    · by_cases ej : j = j0
      · subst ej
        rw [uZ_s, if_pos (by omega), l3, show k + 1 - (j + 1) = k - (j + 1) + 1 by omega]
        rw [nxt_more_e (nxt_none (fun i g1 g2 => l4 i (by omega) (by omega))) (by omega) (by rw [show j + 1 + (k - (j + 1)) = k by omega]; exact hq0)]
        omega
      · rw [uZ_n (by omega), h.2 j hj h0]
        by_cases c : j < k
        · rw [if_pos c, if_pos (by omega), show k + 1 - (j + 1) = k - (j + 1) + 1 by omega]
          by_cases eu : u j = q0
          · -- j is an earlier use: its next is found already
            have hlt : j < j0 := by
              have : ¬ j0 < j := fun z => l4 j z c eu
              omega
            rw [nxt_more_s _ (by omega)]
            rw [eu]
            rcases nxt_cases u q0 (j + 1) (k - (j + 1)) with ⟨g1, g2⟩ | ⟨i, g1, g2, g3, -⟩
            · exact absurd l3 (g2 j0 (by omega) (by omega))
            · rw [g1]; omega
          · rw [nxt_more_n]
            rw [show j + 1 + (k - (j + 1)) = k by omega, hq0]; omega
        · rw [if_neg c]
          by_cases z : j = k
          · subst z; rw [if_pos (by omega), show j + 1 - (j + 1) = 0 by omega]; rfl
          · rw [if_neg (by omega)]
theorem lnp_no {f u : Nat → Int} {n : Nat} {X : Nat → Int} {k : Nat} (h : lnp f u n X k) (hk : k < n) (e : u k < 0) : lnp f u n X (k + 1) := by
  refine ⟨fun q hq => ?_, fun j h1 h2 h3 => h.2 j (by omega) h2 h3⟩
  rw [h.1 q hq, show n - k = n - (k + 1) + 1 by omega]
  show (if u k = q then (k : Int) else nxt u q (k + 1) (n - (k + 1))) = _
  rw [if_neg (by omega)]
theorem lnp_use {f u : Nat → Int} {n : Nat} {X : Nat → Int} {k : Nat} (hu : useOK f u n) (h : lnp f u n X k) (hk : k < n) (e : 0 ≤ u k) : lnp f u n (uZ X (u k).toNat (X (200 + k))) (k + 1) := by
  refine ⟨fun q hq => ?_, fun j h1 h2 h3 => ?_⟩
  · by_cases eq : q = (u k).toNat
    · subst eq
      rw [uZ_s, h.2 k (Nat.le_refl _) hk e]
      congr 1; omega
    · rw [uZ_n eq, h.1 q hq, show n - k = n - (k + 1) + 1 by omega]
      show (if u k = q then (k : Int) else nxt u q (k + 1) (n - (k + 1))) = _
      rw [if_neg (by omega)]
  · rw [uZ_n (fun z => plc_ne hu (hu k hk e).1 h2 h3 z.symm)]
    exact h.2 j (by omega) h2 h3
