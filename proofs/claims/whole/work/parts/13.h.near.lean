-- the names that a binder must keep clear of
def gpL (X : Nat → Int) (e : Int) (uf : Nat → Int) (i : Nat) : List Int := ((List.range i).filter (fun q => decide (X q < e))).map uf
theorem gpL_succ (X : Nat → Int) (e : Int) (uf : Nat → Int) (i : Nat) : gpL X e uf (i + 1) = gpL X e uf i ++ (if X i < e then [uf i] else []) := by
  unfold gpL
  rw [List.range_succ, List.filter_append, List.map_append]
  congr 1
  by_cases h : X i < e
  · simp [h]
  · simp [h]
theorem gpL_len (X : Nat → Int) (e : Int) (uf : Nat → Int) (i : Nat) : (gpL X e uf i).length ≤ i := by
  unfold gpL
  rw [List.length_map]
  have := List.length_filter_le (fun q => decide (X q < e)) (List.range i)
  simpa using this
def oB (ev : List Nat) (p : Nat) : Nat := ev.getD (ev.length - 1 - p) 0
def opL (X : Nat → Int) (e : Int) (ev : List Nat) (wr : Nat → Int) (i : Nat) : List Int := ((List.range i).filter (fun p => decide (X (200 + oB ev p) < e))).map (fun p => wr (oB ev p))
theorem opL_succ (X : Nat → Int) (e : Int) (ev : List Nat) (wr : Nat → Int) (i : Nat) : opL X e ev wr (i + 1) = opL X e ev wr i ++ (if X (200 + oB ev i) < e then [wr (oB ev i)] else []) := by
  unfold opL
  rw [List.range_succ, List.filter_append, List.map_append]
  congr 1
  by_cases h : X (200 + oB ev i) < e
  · simp [h]
  · simp [h]
theorem opL_len (X : Nat → Int) (e : Int) (ev : List Nat) (wr : Nat → Int) (i : Nat) : (opL X e ev wr i).length ≤ i := by
  unfold opL
  rw [List.length_map]
  have := List.length_filter_le (fun p => decide (X (200 + oB ev p) < e)) (List.range i)
  simpa using this
def nearL (X : Nat → Int) (e : Int) (un : Nat) (uf : Nat → Int) (ev : List Nat) (wr : Nat → Int) : List Int := gpL X e uf un ++ opL X e ev wr ev.length
/-- what stands open, place by place -/
theorem mat_oB {o : Nat → Int} {ev : List Nat} (h : mat o ev) {p : Nat} (hp : p < ev.length) : o p = (oB ev p : Int) ∧ oB ev p ∈ ev := by
  have hi : ev.length - 1 - p < ev.length := by omega
  have hg : ev[ev.length - 1 - p]? = some (oB ev p) := by
    show _ = some (ev.getD _ _)
    rw [List.getD_eq_getElem?_getD, List.getElem?_eq_getElem hi]; rfl
  have := h _ _ hg
  rw [show ev.length - 1 - (ev.length - 1 - p) = p by omega] at this
  exact ⟨this, List.mem_of_getElem? hg⟩
def chs (own : Int) (NL : List Int) (r : Int) : Prop := (own ∉ NL ∧ r = own) ∨ (own ∈ NL ∧ ∃ m : Nat, leastN own NL.length (fun i => NL.getD i 0) m ∧ r = nmb own m)
theorem LR_get {m : Nat} {R : Nat → Int} {L : List Int} (h : LR m R = L) : L.length = m ∧ ∀ i, i < m → R i = L.getD i 0 := by
  subst h
  refine ⟨LR_len _ _, fun i hi => ?_⟩
  unfold LR
  rw [List.getD_eq_getElem?_getD]
  simp [hi]
