-- in which binders' last parts a node lies: by a stack that goes over the row
abbrev bP (k : Int) : Prop := k = 1 ∨ k = 2 ∨ k = 3 ∨ k = 6
def stk (f : Nat → Int) : Nat → List (List Nat)
  | 0 => [[]]
  | k + 1 => match stk f k with
    | [] => []
    | e :: r => if bP (f k) then e :: (k :: e) :: r else if f k = 4 then e :: e :: r else r
/-- the binders around node k, the innermost first -/
def env (f : Nat → Int) (k : Nat) : List Nat := (stk f k).headD []
theorem stk_b {f : Nat → Int} {k : Nat} {e : List Nat} {r : List (List Nat)} (h : stk f k = e :: r) (hb : bP (f k)) : stk f (k + 1) = e :: (k :: e) :: r := by
  show (match stk f k with | [] => [] | e :: r => if bP (f k) then e :: (k :: e) :: r else if f k = 4 then e :: e :: r else r) = _
  rw [h]; exact if_pos hb
theorem stk_a {f : Nat → Int} {k : Nat} {e : List Nat} {r : List (List Nat)} (h : stk f k = e :: r) (ha : f k = 4) : stk f (k + 1) = e :: e :: r := by
  show (match stk f k with | [] => [] | e :: r => if bP (f k) then e :: (k :: e) :: r else if f k = 4 then e :: e :: r else r) = _
  rw [h]
  show (if bP (f k) then e :: (k :: e) :: r else if f k = 4 then e :: e :: r else r) = _
  rw [if_neg (by omega), if_pos ha]
theorem stk_l {f : Nat → Int} {k : Nat} {e : List Nat} {r : List (List Nat)} (h : stk f k = e :: r) (hn : ¬ pP (f k)) : stk f (k + 1) = r := by
  show (match stk f k with | [] => [] | e :: r => if bP (f k) then e :: (k :: e) :: r else if f k = 4 then e :: e :: r else r) = _
  rw [h]
  show (if bP (f k) then e :: (k :: e) :: r else if f k = 4 then e :: e :: r else r) = _
  rw [if_neg (by omega), if_neg (by omega)]
theorem stk_0 {f : Nat → Int} {k : Nat} (h : stk f k = []) : stk f (k + 1) = [] := by
  show (match stk f k with | [] => [] | e :: r => if bP (f k) then e :: (k :: e) :: r else if f k = 4 then e :: e :: r else r) = _
  rw [h]
/-- what is written for the last part of a node with parts -/
def lastE (f : Nat → Int) (k : Nat) (e : List Nat) : List Nat := if bP (f k) then k :: e else e
theorem stk_p {f : Nat → Int} {k : Nat} {e : List Nat} {r : List (List Nat)} (h : stk f k = e :: r) (hp : pP (f k)) : stk f (k + 1) = e :: lastE f k e :: r := by
  unfold lastE
  by_cases hb : bP (f k)
  · rw [if_pos hb]; exact stk_b h hb
  · rw [if_neg hb]; exact stk_a h (by omega)
theorem env_of {f : Nat → Int} {k : Nat} {e : List Nat} {r : List (List Nat)} (h : stk f k = e :: r) : env f k = e := by unfold env; rw [h]; rfl
section EnvS
variable {n : Nat} {f : Nat → Int} {σ : Nat → Nat}
theorem stk_end (hz : Sz n f σ 0) : ∀ d k, n - k = d → k < n → ∀ e r, stk f k = e :: r → stk f (k + σ k) = r ∧ (pP (f k) → stk f (k + 1 + σ (k + 1)) = lastE f k e :: r) := by
  intro d
  induction d using Nat.strongRecOn with
  | ind d ih =>
    intro k hd hk e r h
    obtain ⟨a1, a2, a3, a4⟩ := hz k (Nat.zero_le _) hk
    by_cases hp : pP (f k)
    · obtain ⟨c1, c2, c3⟩ := a3 hp
      have s1 := stk_p h hp
      have s2 := (ih (n - (k + 1)) (by omega) (k + 1) rfl c1 _ _ s1).1
      have s3 := (ih (n - (k + 1 + σ (k + 1))) (by omega) (k + 1 + σ (k + 1)) rfl c2 _ _ s2).1
      refine ⟨?_, fun _ => s2⟩
      rw [c3, show k + (1 + σ (k + 1) + σ (k + 1 + σ (k + 1))) = k + 1 + σ (k + 1) + σ (k + 1 + σ (k + 1)) by omega]
      exact s3
    · rw [a4 hp]
      exact ⟨stk_l h hp, fun q => absurd q hp⟩
theorem stk_in (hz : Sz n f σ 0) : ∀ d k, n - k = d → k < n → ∀ e r, stk f k = e :: r → ∀ j, k ≤ j → j < k + σ k → ∃ x p, stk f j = x :: (p ++ r) := by
  intro d
  induction d using Nat.strongRecOn with
  | ind d ih =>
    intro k hd hk e r h j h1 h2
    obtain ⟨a1, a2, a3, a4⟩ := hz k (Nat.zero_le _) hk
    by_cases e0 : j = k
    · subst e0; exact ⟨e, [], h⟩
    by_cases hp : pP (f k)
    · obtain ⟨c1, c2, c3⟩ := a3 hp
      have s1 := stk_p h hp
      have s2 := (stk_end hz _ k rfl hk _ _ h).2 hp
      by_cases hj : j < k + 1 + σ (k + 1)
      · obtain ⟨x, p, q⟩ := ih (n - (k + 1)) (by omega) (k + 1) rfl c1 _ _ s1 j (by omega) hj
        exact ⟨x, p ++ [lastE f k e], by rw [q]; simp⟩
      · obtain ⟨x, p, q⟩ := ih (n - (k + 1 + σ (k + 1))) (by omega) (k + 1 + σ (k + 1)) rfl c2 _ _ s2 j (by omega) (by omega)
        exact ⟨x, p, q⟩
    · rw [a4 hp] at h2; omega
theorem stk_at (hz : Sz n f σ 0) (h0 : σ 0 = n) {j : Nat} (hj : j < n) : ∃ r, stk f j = env f j :: r := by
  obtain ⟨x, p, q⟩ := stk_in hz _ 0 rfl (by omega) [] [] rfl j (Nat.zero_le _) (by omega)
  exact ⟨p ++ [], by rw [env_of q]; exact q⟩
theorem env_1 (hz : Sz n f σ 0) (h0 : σ 0 = n) {k : Nat} (hk : k < n) (hp : pP (f k)) : env f (k + 1) = env f k := by
  obtain ⟨r, h⟩ := stk_at hz h0 hk
  exact env_of (stk_p h hp)
theorem env_2 (hz : Sz n f σ 0) (h0 : σ 0 = n) {k : Nat} (hk : k < n) (hp : pP (f k)) : env f (k + 1 + σ (k + 1)) = lastE f k (env f k) := by
  obtain ⟨r, h⟩ := stk_at hz h0 hk
  exact env_of ((stk_end hz _ k rfl hk _ _ h).2 hp)
theorem par_in (hz : Sz n f σ 0) : ∀ d k, n - k = d → k < n → ∀ j, k < j → j < k + σ k → ∃ p, k ≤ p ∧ p < j ∧ pP (f p) ∧ (j = p + 1 ∨ j = p + 1 + σ (p + 1)) := by
  intro d
  induction d using Nat.strongRecOn with
  | ind d ih =>
    intro k hd hk j h1 h2
    obtain ⟨a1, a2, a3, a4⟩ := hz k (Nat.zero_le _) hk
    by_cases hp : pP (f k)
    · obtain ⟨c1, c2, c3⟩ := a3 hp
      by_cases e1 : j = k + 1
      · exact ⟨k, Nat.le_refl _, h1, hp, Or.inl e1⟩
      by_cases e2 : j = k + 1 + σ (k + 1)
      · exact ⟨k, Nat.le_refl _, h1, hp, Or.inr e2⟩
      by_cases hj : j < k + 1 + σ (k + 1)
      · obtain ⟨p, q1, q2, q3⟩ := ih (n - (k + 1)) (by omega) (k + 1) rfl c1 j (by omega) hj
        exact ⟨p, by omega, q2, q3⟩
      · obtain ⟨p, q1, q2, q3⟩ := ih (n - (k + 1 + σ (k + 1))) (by omega) (k + 1 + σ (k + 1)) rfl c2 j (by omega) (by omega)
        exact ⟨p, by omega, q2, q3⟩
    · rw [a4 hp] at h2; omega
theorem par (hz : Sz n f σ 0) (h0 : σ 0 = n) {j : Nat} (h1 : 0 < j) (h2 : j < n) : ∃ p, p < j ∧ pP (f p) ∧ (j = p + 1 ∨ j = p + 1 + σ (p + 1)) := by
  obtain ⟨p, -, q⟩ := par_in hz _ 0 rfl (by omega) j h1 (by omega)
  exact ⟨p, q⟩
end EnvS
/-- an entry of the stack is empty, or a binder with what is around it -/
theorem env_good (f : Nat → Int) : ∀ k, ∀ e ∈ stk f k, e = [] ∨ ∃ b, e = b :: env f b ∧ b < k ∧ bP (f b)
  | 0, e, h => by
    have : e = [] := by simpa [stk] using h
    exact Or.inl this
  | k + 1, e, h => by
    have ih := env_good f k
    have up : ∀ x, (x = [] ∨ ∃ b, x = b :: env f b ∧ b < k ∧ bP (f b)) → (x = [] ∨ ∃ b, x = b :: env f b ∧ b < k + 1 ∧ bP (f b)) := by
      intro x hx
      rcases hx with hx | ⟨b, h1, h2, h3⟩
      · exact Or.inl hx
      · exact Or.inr ⟨b, h1, by omega, h3⟩
    cases hs : stk f k with
    | nil => rw [stk_0 hs] at h; cases h
    | cons e0 r =>
      have m0 : e0 ∈ stk f k := by rw [hs]; exact List.mem_cons_self
      have mr : ∀ x, x ∈ r → x ∈ stk f k := fun x hx => by rw [hs]; exact List.mem_cons_of_mem _ hx
      by_cases hb : bP (f k)
      · rw [stk_b hs hb] at h
        rcases List.mem_cons.mp h with h | h
        · subst h; exact up _ (ih _ m0)
        rcases List.mem_cons.mp h with h | h
        · exact Or.inr ⟨k, by rw [h, env_of hs], by omega, hb⟩
        · exact up _ (ih _ (mr _ h))
      by_cases ha : f k = 4
      · rw [stk_a hs ha] at h
        rcases List.mem_cons.mp h with h | h
        · subst h; exact up _ (ih _ m0)
        rcases List.mem_cons.mp h with h | h
        · subst h; exact up _ (ih _ m0)
        · exact up _ (ih _ (mr _ h))
      · rw [stk_l hs (by omega)] at h
        exact up _ (ih _ (mr _ h))
theorem env_len (f : Nat → Int) : ∀ k, ∀ e ∈ stk f k, e.length ≤ k
  | 0, e, h => by
    have : e = [] := by simpa [stk] using h
    rw [this]; exact Nat.le_refl _
  | k + 1, e, h => by
    have ih := env_len f k
    cases hs : stk f k with
    | nil => rw [stk_0 hs] at h; cases h
    | cons e0 r =>
      have m0 : e0.length ≤ k := ih _ (by rw [hs]; exact List.mem_cons_self)
      have mr : ∀ x, x ∈ r → x.length ≤ k := fun x hx => ih _ (by rw [hs]; exact List.mem_cons_of_mem _ hx)
      by_cases hb : bP (f k)
      · rw [stk_b hs hb] at h
        rcases List.mem_cons.mp h with h | h
        · subst h; omega
        rcases List.mem_cons.mp h with h | h
        · rw [h]; simp; omega
        · have := mr _ h; omega
      by_cases ha : f k = 4
      · rw [stk_a hs ha] at h
        rcases List.mem_cons.mp h with h | h
        · subst h; omega
        rcases List.mem_cons.mp h with h | h
        · subst h; omega
        · have := mr _ h; omega
      · rw [stk_l hs (by omega)] at h
        have := mr _ h; omega
theorem env_suf (f : Nat → Int) : ∀ k, (stk f k).Pairwise (fun a b => b.tail <:+ a)
  | 0 => by simp [stk]
  | k + 1 => by
    have ih := env_suf f k
    cases hs : stk f k with
    | nil => rw [stk_0 hs]; exact List.Pairwise.nil
    | cons e0 r =>
      rw [hs, List.pairwise_cons] at ih
      have t0 : e0.tail <:+ e0 := List.tail_suffix e0
      by_cases hb : bP (f k)
      · rw [stk_b hs hb, List.pairwise_cons, List.pairwise_cons]
        refine ⟨fun x hx => ?_, fun x hx => ?_, ih.2⟩
        · rcases List.mem_cons.mp hx with hx | hx
          · rw [hx]; exact List.suffix_refl _
          · exact ih.1 x hx
        · exact (ih.1 x hx).trans (List.suffix_cons _ _)
      by_cases ha : f k = 4
      · rw [stk_a hs ha, List.pairwise_cons, List.pairwise_cons]
        refine ⟨fun x hx => ?_, fun x hx => ih.1 x hx, ih.2⟩
        rcases List.mem_cons.mp hx with hx | hx
        · rw [hx]; exact t0
        · exact ih.1 x hx
      · rw [stk_l hs (by omega)]
        exact ih.2
/-- what stands open is these binders -/
def mat (o : Nat → Int) (e : List Nat) : Prop := ∀ (i b : Nat), e[i]? = some b → o (e.length - 1 - i) = (b : Int)
theorem mat_nil (o : Nat → Int) : mat o [] := fun i b h => by simp at h
theorem mat_suf {o : Nat → Int} {t e : List Nat} (h : mat o e) (hs : t <:+ e) : mat o t := by
  obtain ⟨p, rfl⟩ := hs
  intro i b hb
  have hi : i < t.length := (List.getElem?_eq_some_iff.mp hb).1
  have := h (p.length + i) b (by rw [List.getElem?_append_right (by omega)]; simpa using hb)
  rw [List.length_append] at this
  rw [← this]
  congr 1
  omega
theorem mat_cons {o : Nat → Int} {t : List Nat} {b : Nat} (h : mat o t) : mat (uZ o t.length (b : Int)) (b :: t) := by
  intro i c hc
  cases i with
  | zero =>
    have : b = c := by simpa using hc
    subst this
    simp [uZ]
  | succ i =>
    have hc' : t[i]? = some c := by simpa using hc
    have hi : i < t.length := (List.getElem?_eq_some_iff.mp hc').1
    rw [uZ_n (by simp; omega)]
    rw [← h i c hc']
    congr 1
    simp; omega
/-- the innermost one, or -1 -/
def hd (e : List Nat) : Int := match e with
  | [] => -1
  | b :: _ => (b : Int)
theorem hd_in {f : Nat → Int} {k : Nat} {e : List Nat} (h : e ∈ stk f k) : -1 ≤ hd e ∧ hd e < k := by
  rcases env_good f k e h with rfl | ⟨b, rfl, h2, -⟩
  · show (-1 : Int) ≤ -1 ∧ (-1 : Int) < k; omega
  · show (-1 : Int) ≤ (b : Int) ∧ (b : Int) < k; omega
section EnvR
variable {n : Nat} {f : Nat → Int} {σ : Nat → Nat}
theorem env_mem (hz : Sz n f σ 0) (h0 : σ 0 = n) {k : Nat} (hk : k < n) : env f k ∈ stk f k := by
  obtain ⟨r, h⟩ := stk_at hz h0 hk
  rw [h]; exact List.mem_cons_self
theorem env_hd (hz : Sz n f σ 0) (h0 : σ 0 = n) {k : Nat} (hk : k < n) : (env f k = [] ∧ hd (env f k) = -1) ∨ ∃ b : Nat, env f k = b :: env f b ∧ hd (env f k) = b ∧ b < k ∧ bP (f b) := by
  rcases env_good f k _ (env_mem hz h0 hk) with h | ⟨b, h1, h2, h3⟩
  · exact Or.inl ⟨h, by rw [h]; rfl⟩
  · exact Or.inr ⟨b, h1, by rw [h1]; rfl, h2, h3⟩
theorem env_le (hz : Sz n f σ 0) (h0 : σ 0 = n) {k : Nat} (hk : k < n) : (env f k).length ≤ k := env_len f k _ (env_mem hz h0 hk)
/-- the places that the nodes before k have written -/
def inv2 (n : Nat) (f : Nat → Int) (σ : Nat → Nat) (I : Nat → Int) (k : Nat) : Prop := ∀ j, j < n → (j = 0 ∨ ∃ p, p < k ∧ pP (f p) ∧ (j = p + 1 ∨ j = p + 1 + σ (p + 1))) → I j = hd (env f j)
theorem inv2_leaf {I : Nat → Int} {k : Nat} (hn : ¬ pP (f k)) (h : inv2 n f σ I k) : inv2 n f σ I (k + 1) := by
  intro j hj hw
  refine h j hj ?_
  rcases hw with hw | ⟨p, h1, h2, h3⟩
  · exact Or.inl hw
  · have : p ≠ k := fun e => hn (e ▸ h2)
    exact Or.inr ⟨p, by omega, h2, h3⟩
theorem inv2_part (hz : Sz n f σ 0) (h0 : σ 0 = n) {I : Nat → Int} {k : Nat} (hk : k < n) (hp : pP (f k)) (h : inv2 n f σ I k) : inv2 n f σ (uZ (uZ I (k + 1) (hd (env f k))) (k + 1 + σ (k + 1)) (hd (lastE f k (env f k)))) (k + 1) := by
  intro j hj hw
  by_cases e2 : j = k + 1 + σ (k + 1)
  · subst e2
    rw [uZ_s, env_2 hz h0 hk hp]
  rw [uZ_n e2]
  by_cases e1 : j = k + 1
  · subst e1
    rw [uZ_s, env_1 hz h0 hk hp]
  rw [uZ_n e1]
  refine h j hj ?_
  rcases hw with hw | ⟨p, h1, h2, h3⟩
  · exact Or.inl hw
  · have : p ≠ k := fun e => by subst e; omega
    exact Or.inr ⟨p, by omega, h2, h3⟩
theorem inv2_all (hz : Sz n f σ 0) (h0 : σ 0 = n) {I : Nat → Int} {k : Nat} (h : inv2 n f σ I k) : ∀ j, j < n → j ≤ k → I j = hd (env f j) := by
  intro j hj hk
  by_cases e : j = 0
  · exact h j hj (Or.inl e)
  · obtain ⟨p, q1, q2, q3⟩ := par hz h0 (by omega) hj
    exact h j hj (Or.inr ⟨p, by omega, q2, q3⟩)
end EnvR
