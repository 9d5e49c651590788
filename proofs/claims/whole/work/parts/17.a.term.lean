-- closed terms, by a machine over their nodes: how deep the parts lie that are still to come
def stp (un : Nat) (s : List Nat) (x : Int × Int) : Option (List Nat) := match s with
  | [] => none
  | e :: r => if bP x.1 then some (e :: (e + 1) :: r) else if x.1 = 4 then some (e :: e :: r) else if (x.1 = 0 → 0 ≤ x.2 ∧ x.2 < (e : Int)) ∧ (x.1 = 7 → 0 ≤ x.2 ∧ x.2 < (un : Int)) then some r else none
def dm (un : Nat) : List Nat → List (Int × Int) → Option (List Nat)
  | s, [] => some s
  | s, x :: xs => match stp un s x with
    | none => none
    | some s' => dm un s' xs
theorem dm_app {un : Nat} : ∀ {L1 L2 : List (Int × Int)} {s t : List Nat}, dm un s L1 = some t → dm un s (L1 ++ L2) = dm un t L2
  | [], L2, s, t, h => by
    have : s = t := Option.some.inj h
    rw [this]; rfl
  | x :: xs, L2, s, t, h => by
    show (match stp un s x with | none => none | some s' => dm un s' (xs ++ L2)) = _
    have h' : (match stp un s x with | none => none | some s' => dm un s' xs) = some t := h
    cases hs : stp un s x with
    | none => rw [hs] at h'; cases h'
    | some s' => rw [hs] at h'; exact dm_app h'
theorem dm_pre {un : Nat} : ∀ {L1 L2 : List (Int × Int)} {s t : List Nat}, dm un s (L1 ++ L2) = some t → ∃ u, dm un s L1 = some u ∧ dm un u L2 = some t
  | [], L2, s, t, h => ⟨s, rfl, h⟩
  | x :: xs, L2, s, t, h => by
    have h' : (match stp un s x with | none => none | some s' => dm un s' (xs ++ L2)) = some t := h
    cases hs : stp un s x with
    | none => rw [hs] at h'; cases h'
    | some s' =>
      rw [hs] at h'
      obtain ⟨u, h1, h2⟩ := dm_pre h'
      refine ⟨u, ?_, h2⟩
      show (match stp un s x with | none => none | some s' => dm un s' xs) = _
      rw [hs]; exact h1
theorem dm_one {un : Nat} {s t : List Nat} {x : Int × Int} (h : stp un s x = some t) : dm un s [x] = some t := by
  show (match stp un s x with | none => none | some s' => dm un s' []) = _
  rw [h]; rfl
theorem dm_one' {un : Nat} {s t : List Nat} {x : Int × Int} (h : dm un s [x] = some t) : stp un s x = some t := by
  have h' : (match stp un s x with | none => none | some s' => dm un s' []) = some t := h
  cases hs : stp un s x with
  | none => rw [hs] at h'; cases h'
  | some s' => rw [hs] at h'; exact h'
theorem stp_b {un e : Nat} {r : List Nat} {x : Int × Int} (h : bP x.1) : stp un (e :: r) x = some (e :: (e + 1) :: r) := if_pos h
theorem stp_a {un e : Nat} {r : List Nat} {x : Int × Int} (h : x.1 = 4) : stp un (e :: r) x = some (e :: e :: r) := by
  show (if bP x.1 then some (e :: (e + 1) :: r) else if x.1 = 4 then some (e :: e :: r) else _) = _
  rw [if_neg (by omega), if_pos h]
theorem stp_l {un e : Nat} {r : List Nat} {x : Int × Int} (h : ¬ pP x.1) (h0 : x.1 = 0 → 0 ≤ x.2 ∧ x.2 < (e : Int)) (h7 : x.1 = 7 → 0 ≤ x.2 ∧ x.2 < (un : Int)) : stp un (e :: r) x = some r := by
  show (if bP x.1 then some (e :: (e + 1) :: r) else if x.1 = 4 then some (e :: e :: r) else if (x.1 = 0 → 0 ≤ x.2 ∧ x.2 < (e : Int)) ∧ (x.1 = 7 → 0 ≤ x.2 ∧ x.2 < (un : Int)) then some r else none) = _
  rw [if_neg (by omega), if_neg (by omega), if_pos ⟨h0, h7⟩]
/-- how deep the parts of a row lie that are still to come -/
def sd (f : Nat → Int) (k : Nat) : List Nat := (stk f k).map List.length
theorem sd_b {f : Nat → Int} {k e : Nat} {r : List Nat} (h : sd f k = e :: r) (hb : bP (f k)) : sd f (k + 1) = e :: (e + 1) :: r := by
  unfold sd at h ⊢
  cases hs : stk f k with
  | nil => rw [hs] at h; cases h
  | cons a q =>
    rw [hs] at h
    obtain ⟨h1, h2⟩ := List.cons.inj h
    rw [stk_b hs hb]
    show a.length :: (a.length + 1) :: q.map List.length = _
    rw [h1, h2]
theorem sd_a {f : Nat → Int} {k e : Nat} {r : List Nat} (h : sd f k = e :: r) (ha : f k = 4) : sd f (k + 1) = e :: e :: r := by
  unfold sd at h ⊢
  cases hs : stk f k with
  | nil => rw [hs] at h; cases h
  | cons a q =>
    rw [hs] at h
    obtain ⟨h1, h2⟩ := List.cons.inj h
    rw [stk_a hs ha]
    show a.length :: a.length :: q.map List.length = _
    rw [h1, h2]
theorem sd_l {f : Nat → Int} {k e : Nat} {r : List Nat} (h : sd f k = e :: r) (hn : ¬ pP (f k)) : sd f (k + 1) = r := by
  unfold sd at h ⊢
  cases hs : stk f k with
  | nil => rw [hs] at h; cases h
  | cons a q =>
    rw [hs] at h
    rw [stk_l hs hn]
    exact (List.cons.inj h).2
theorem sd_hd {f : Nat → Int} {k e : Nat} {r : List Nat} (h : sd f k = e :: r) : (env f k).length = e := by
  unfold sd at h
  cases hs : stk f k with
  | nil => rw [hs] at h; cases h
  | cons a q =>
    rw [hs] at h
    rw [env_of hs]
    exact (List.cons.inj h).1
theorem sd_nil {f : Nat → Int} {k : Nat} : sd f k = [] ↔ stk f k = [] := by
  unfold sd
  exact List.map_eq_nil_iff
/-- the machine goes over a row as the stack does -/
theorem dm_step {f g : Nat → Int} {un k e : Nat} {r : List Nat} (h : sd f k = e :: r) (hc : clo f g un k) : stp un (e :: r) (f k, g k) = some (sd f (k + 1)) := by
  by_cases hb : bP (f k)
  · rw [sd_b h hb]; exact stp_b hb
  by_cases ha : f k = 4
  · rw [sd_a h ha]; exact stp_a ha
  · rw [sd_l h (by omega)]
    refine stp_l (by show ¬ pP (f k); omega) (fun q => ?_) hc.2
    have := hc.1 q
    have e2 := sd_hd h
    show 0 ≤ g k ∧ g k < (e : Int)
    have e3 : (dep f k : Int) = (e : Int) := by show (((env f k).length : Nat) : Int) = _; rw [e2]
    omega
theorem dm_seg {f g : Nat → Int} {un a : Nat} : ∀ m, (∀ j, a ≤ j → j < a + m → sd f j ≠ [] ∧ clo f g un j) → dm un (sd f a) (seg f g a m) = some (sd f (a + m))
  | 0, _ => rfl
  | m + 1, h => by
    have ih := dm_seg (f := f) (g := g) (un := un) (a := a) m (fun j h1 h2 => h j h1 (by omega))
    obtain ⟨h1, h2⟩ := h (a + m) (by omega) (by omega)
    rw [seg_succ, dm_app ih]
    cases hs : sd f (a + m) with
    | nil => exact absurd hs h1
    | cons e r => exact dm_one (dm_step hs h2)
theorem seg_Lr (n : Nat) (f g : Nat → Int) : seg f g 0 n = Lr n f g := by
  unfold seg Lr
  rw [List.range_eq_range']
/-- a closed term, by its row -/
def cloT (n : Nat) (f g : Nat → Int) (un : Nat) : Prop := OneT n f ∧ ∀ j, j < n → clo f g un j
theorem cloT_dm {n un : Nat} {f g : Nat → Int} (h : cloT n f g un) : dm un [0] (Lr n f g) = some [] := by
  obtain ⟨h1, h2⟩ := OneT_stk.mp h.1
  have := dm_seg (f := f) (g := g) (un := un) (a := 0) n (fun j _ hj => ⟨fun q => h1 j (by omega) (sd_nil.mp q), h.2 j (by omega)⟩)
  rw [Nat.zero_add, seg_Lr, show sd f n = [] from sd_nil.mpr h2] at this
  exact this
theorem dm_row {un : Nat} {f g : Nat → Int} : ∀ n t, dm un [0] (Lr n f g) = some t → t = sd f n ∧ ∀ j, j < n → sd f j ≠ [] ∧ clo f g un j
  | 0, t, h => ⟨(Option.some.inj h).symm, fun j hj => by omega⟩
  | n + 1, t, h => by
    rw [Lr_succ] at h
    obtain ⟨u, h1, h2⟩ := dm_pre h
    obtain ⟨e1, ih⟩ := dm_row n u h1
    subst e1
    have h3 := dm_one' h2
    have hne : sd f n ≠ [] := fun q => by rw [q] at h3; cases h3
    obtain ⟨e, r, hs⟩ : ∃ e r, sd f n = e :: r := by
      cases hs : sd f n with
      | nil => exact absurd hs hne
      | cons e r => exact ⟨e, r, rfl⟩
    have hcl : clo f g un n := by
      by_cases hp : pP (f n)
      · exact ⟨fun q => by omega, fun q => by omega⟩
      · rw [hs] at h3
        have h4 : (if bP (f n) then some (e :: (e + 1) :: r) else if f n = 4 then some (e :: e :: r) else if (f n = 0 → 0 ≤ g n ∧ g n < (e : Int)) ∧ (f n = 7 → 0 ≤ g n ∧ g n < (un : Int)) then some r else none) = some t := h3
        rw [if_neg (by omega), if_neg (by omega)] at h4
        split at h4
        · next hq =>
          have e2 := sd_hd hs
          have e3 : (dep f n : Int) = (e : Int) := by show (((env f n).length : Nat) : Int) = _; rw [e2]
          exact ⟨fun q => by have := hq.1 q; omega, hq.2⟩
        · cases h4
    refine ⟨?_, fun j hj => ?_⟩
    · have := dm_step hs hcl
      rw [hs, this] at h3
      exact (Option.some.inj h3).symm
    · by_cases e9 : j = n
      · subst e9; exact ⟨hne, hcl⟩
      · exact ih j (by omega)
theorem dm_cloT {n un : Nat} {f g : Nat → Int} (h : dm un [0] (Lr n f g) = some []) : cloT n f g un := by
  obtain ⟨h1, h2⟩ := dm_row n [] h
  exact ⟨OneT_stk.mpr ⟨fun k hk q => (h2 k hk).1 (sd_nil.mpr q), sd_nil.mp h1.symm⟩, fun j hj => (h2 j hj).2⟩
