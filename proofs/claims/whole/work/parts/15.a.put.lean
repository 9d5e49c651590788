-- writing: what the pen's paper says of each node
theorem env_sec {n : Nat} {f : Nat → Int} {σ : Nat → Nat} (hz : Sz n f σ 0) (h0 : σ 0 = n) : ∀ m k, k ≤ m → k < n → ∀ b ∈ env f k, b + 1 + σ (b + 1) ≤ k := by
  intro m
  induction m with
  | zero =>
    intro k h1 h2 b hb
    have e : k = 0 := by omega
    subst e
    have := env_le hz h0 h2
    have e2 : env f 0 = [] := List.length_eq_zero_iff.mp (by omega)
    rw [e2] at hb; cases hb
  | succ m ih =>
    intro k h1 h2 b hb
    by_cases hk : k ≤ m
    · exact ih k hk h2 b hb
    obtain ⟨p, q1, q2, q3⟩ := par hz h0 (show 0 < k by omega) h2
    rcases q3 with q3 | q3
    · rw [q3, env_1 hz h0 (by omega) q2] at hb
      have := ih p (by omega) (by omega) b hb
      omega
    · rw [q3, env_2 hz h0 (by omega) q2] at hb
      unfold lastE at hb
      split at hb
      · rcases List.mem_cons.mp hb with hb | hb
        · subst hb; omega
        · have := ih p (by omega) (by omega) b hb; omega
      · have := ih p (by omega) (by omega) b hb; omega
theorem sec_hd {n : Nat} {f : Nat → Int} {σ : Nat → Nat} (hz : Sz n f σ 0) (h0 : σ 0 = n) {j k : Nat} (hj : j < n) (hb : bP (f j)) (e : j + 1 + σ (j + 1) = k) : hd (env f k) = (j : Int) := by
  rw [← e, env_2 hz h0 hj (by omega)]
  unfold lastE
  rw [if_pos hb]; rfl
theorem oB_mem {ev : List Nat} {p : Nat} (hp : p < ev.length) : oB ev p ∈ ev := by
  have hi : ev.length - 1 - p < ev.length := by omega
  show ev.getD (ev.length - 1 - p) 0 ∈ ev
  rw [List.getD_eq_getElem?_getD, List.getElem?_eq_getElem hi]
  exact List.getElem_mem hi
theorem gpL_congr {X X' : Nat → Int} {e : Int} {uf uf' : Nat → Int} : ∀ i, (∀ q, q < i → X q = X' q ∧ uf q = uf' q) → gpL X e uf i = gpL X' e uf' i
  | 0, _ => rfl
  | i + 1, h => by rw [gpL_succ, gpL_succ, gpL_congr i (fun q hq => h q (by omega)), (h i (by omega)).1, (h i (by omega)).2]
theorem opL_congr {X X' : Nat → Int} {e : Int} {ev : List Nat} {wr wr' : Nat → Int} : ∀ i, i ≤ ev.length → (∀ q ∈ ev, X (200 + q) = X' (200 + q) ∧ wr q = wr' q) → opL X e ev wr i = opL X' e ev wr' i
  | 0, _, _ => rfl
  | i + 1, hi, h => by
    have hm : oB ev i ∈ ev := oB_mem (by omega)
    rw [opL_succ, opL_succ, opL_congr i (by omega) h, (h _ hm).1, (h _ hm).2]
theorem nearL_congr {X X' : Nat → Int} {e : Int} {un : Nat} {uf uf' : Nat → Int} {ev : List Nat} {wr wr' : Nat → Int} (h1 : ∀ q, q < un → X q = X' q ∧ uf q = uf' q) (h2 : ∀ q ∈ ev, X (200 + q) = X' (200 + q) ∧ wr q = wr' q) : nearL X e un uf ev wr = nearL X' e un uf' ev wr' := by
  unfold nearL
  rw [gpL_congr un h1, opL_congr ev.length (Nat.le_refl _) h2]
/-- the next use of each place, from node s on -/
def XN (u : Nat → Int) (n s : Nat) : Nat → Int := fun q => nxt u (q : Int) s (n - s)
/-- the kind that is written -/
def wK (f u : Nat → Int) (n j : Nat) : Int := if f j = 7 then 0 else if f j = 2 then (if XN u n j (200 + j) = 3000 then 6 else 2) else f j
/-- what is written for node j, when the nodes before k are -/
def wOK (f g : Nat → Int) (σ : Nat → Nat) (n un : Nat) (uf : Nat → Int) (k : Nat) (F G : Nat → Int) (j : Nat) : Prop :=
  F j = wK f (useP f g) n j ∧ 0 ≤ G j ∧ (f j = 7 → G j = uf (g j).toNat) ∧ (f j = 0 → G j = G ((env f j).getD (g j).toNat 0)) ∧ (f j = 4 ∨ f j = 5 → G j = g j) ∧ (F j = 6 → G j = 0) ∧ (bP (f j) → F j ≠ 6 → j + 1 + σ (j + 1) < k → chs (ownN (g j)) (nearL (XN (useP f g) n (j + 1 + σ (j + 1))) ((j + σ j : Nat) : Int) un uf (env f j) G) (G j))
/-- kinds of a term -/
def kT (f : Nat → Int) (n : Nat) : Prop := ∀ j, j < n → (0 ≤ f j ∧ f j ≤ 5) ∨ f j = 7
theorem wOK_put {f g : Nat → Int} {σ : Nat → Nat} {n un : Nat} {uf X : Nat → Int} {k : Nat} {F G F' G' : Nat → Int} (hz : Sz n f σ 0) (h0 : σ 0 = n) (hk : k < n) (hT : (0 ≤ f k ∧ f k ≤ 5) ∨ f k = 7) (hcA : ∀ j, j < n → clo f g un j) (hg : 0 ≤ g k) (hu : ∀ i, i < un → 0 ≤ uf i) (hx : f k = 2 → X (200 + k) = XN (useP f g) n k (200 + k)) (hI : ∀ j, j < k → wOK f g σ n un uf (k + 1) F G j) (hF : ∀ j, j < k → F' j = F j ∧ G' j = G j) (hw : (F' k, G' k) = wNode f g X uf G k) : ∀ j, j < k + 1 → wOK f g σ n un uf (k + 1) F' G' j := by
  intro j hj
  have hev : ∀ j, j < n → ∀ b ∈ env f j, b < j := fun j hj b hb => (env_bP hz h0 j j (Nat.le_refl _) hj b hb).1
  by_cases e : j = k
  · subst e
    obtain ⟨c1, c2⟩ := hcA j hk
    have hl : bP (f j) → F' j ≠ 6 → j + 1 + σ (j + 1) < j + 1 → chs (ownN (g j)) (nearL (XN (useP f g) n (j + 1 + σ (j + 1))) ((j + σ j : Nat) : Int) un uf (env f j) G') (G' j) := fun _ _ h => by omega
    by_cases z0 : f j = 0
    · have e1 : wNode f g X uf G j = (0, G ((env f j).getD (g j).toNat 0)) := by unfold wNode; rw [if_pos z0]
      rw [e1] at hw
      obtain ⟨w1, w2⟩ := Prod.mk.inj hw
      obtain ⟨d1, d2⟩ := c1 z0
      have hm := (env_get hz h0 hk (i := (g j).toNat) (by omega)).1
      refine ⟨?_, by rw [w2]; exact (hI _ hm).2.1, fun h => by omega, fun _ => by rw [w2, (hF _ hm).2], fun h => by omega, fun h => by omega, hl⟩
      unfold wK; rw [w1, if_neg (by omega), if_neg (by omega), z0]
    by_cases z7 : f j = 7
    · have e1 : wNode f g X uf G j = (0, uf (g j).toNat) := by unfold wNode; rw [if_neg z0, if_pos z7]
      rw [e1] at hw
      obtain ⟨w1, w2⟩ := Prod.mk.inj hw
      obtain ⟨d1, d2⟩ := c2 z7
      refine ⟨?_, by rw [w2]; exact hu _ (by omega), fun _ => w2, fun h => by omega, fun h => by omega, fun h => by omega, hl⟩
      unfold wK; rw [w1, if_pos z7]
    by_cases z2 : f j = 2
    · have e1 : wNode f g X uf G j = (if X (200 + j) = 3000 then 6 else 2, 0) := by unfold wNode; rw [if_neg z0, if_neg z7, if_pos z2]
      rw [e1] at hw
      obtain ⟨w1, w2⟩ := Prod.mk.inj hw
      refine ⟨?_, by rw [w2]; exact Int.le_refl _, fun h => by omega, fun h => by omega, fun h => by omega, fun _ => w2, hl⟩
      unfold wK; rw [w1, if_neg z7, if_pos z2, hx z2]
    · have e1 : wNode f g X uf G j = (f j, g j) := by unfold wNode; rw [if_neg z0, if_neg z7, if_neg z2]
      rw [e1] at hw
      obtain ⟨w1, w2⟩ := Prod.mk.inj hw
      refine ⟨?_, by rw [w2]; exact hg, fun h => by omega, fun h => by omega, fun _ => w2, fun h => by omega, hl⟩
      unfold wK; rw [w1, if_neg z7, if_neg z2]
  · obtain ⟨a1, a2, a3, a4, a5, a6, a7⟩ := hI j (by omega)
    obtain ⟨x1, x2⟩ := hF j (by omega)
    refine ⟨by rw [x1]; exact a1, by rw [x2]; exact a2, fun h => by rw [x2]; exact a3 h, fun h => ?_, fun h => by rw [x2]; exact a5 h, fun h => by rw [x2]; exact a6 (by rw [← x1]; exact h), fun h1 h2 h3 => ?_⟩
    · have hm := (env_get hz h0 (show j < n by omega) (i := (g j).toNat) (by have := (hcA j (by omega)).1 h; omega)).1
      rw [x2, (hF _ (show _ < k by omega)).2]; exact a4 h
    · have e9 : nearL (XN (useP f g) n (j + 1 + σ (j + 1))) ((j + σ j : Nat) : Int) un uf (env f j) G' = nearL (XN (useP f g) n (j + 1 + σ (j + 1))) ((j + σ j : Nat) : Int) un uf (env f j) G :=
        nearL_congr (fun q _ => ⟨rfl, rfl⟩) (fun q hq => ⟨rfl, (hF q (by have := hev j (by omega) q hq; omega)).2⟩)
      rw [x2, e9]; exact a7 h1 (by rw [← x1]; exact h2) h3
theorem wOK_skip {f g : Nat → Int} {σ : Nat → Nat} {n un : Nat} {uf : Nat → Int} {k : Nat} {F G : Nat → Int} (hI : ∀ j, j < k → wOK f g σ n un uf k F G j) (hn : ∀ j, j < k → bP (f j) → F j ≠ 6 → j + 1 + σ (j + 1) ≠ k) : ∀ j, j < k → wOK f g σ n un uf (k + 1) F G j := by
  intro j hj
  obtain ⟨a1, a2, a3, a4, a5, a6, a7⟩ := hI j hj
  exact ⟨a1, a2, a3, a4, a5, a6, fun h1 h2 h3 => a7 h1 h2 (by have := hn j hj h1 h2; omega)⟩
theorem wOK_cho {f g : Nat → Int} {σ : Nat → Nat} {n un : Nat} {uf X : Nat → Int} {k b : Nat} {r : Int} {F G : Nat → Int} (hz : Sz n f σ 0) (h0 : σ 0 = n) (hk : k < n) (hb : b < k) (hbp : bP (f b)) (hs : b + 1 + σ (b + 1) = k) (hcA : ∀ j, j < n → clo f g un j) (hx : lnp f (useP f g) n X k) (hun : un ≤ 200) (hr : 0 ≤ r) (hch : chs (ownN (g b)) (nearL X ((b + σ b : Nat) : Int) un uf (env f b) G) r) (h6 : F b ≠ 6) (hI : ∀ j, j < k → wOK f g σ n un uf k F G j) : ∀ j, j < k → wOK f g σ n un uf (k + 1) F (uZ G b r) j := by
  have hne : ∀ j, j < k → ∀ q ∈ env f j, q ≠ b := fun j hj q hq e => by
    have := env_sec hz h0 j j (Nat.le_refl _) (by omega) q hq
    rw [e] at this; omega
  have hbin := env_bP hz h0
  intro j hj
  obtain ⟨a1, a2, a3, a4, a5, a6, a7⟩ := hI j hj
  have hnc : nearL (XN (useP f g) n (j + 1 + σ (j + 1))) ((j + σ j : Nat) : Int) un uf (env f j) (uZ G b r) = nearL (XN (useP f g) n (j + 1 + σ (j + 1))) ((j + σ j : Nat) : Int) un uf (env f j) G :=
    nearL_congr (fun q _ => ⟨rfl, rfl⟩) (fun q hq => ⟨rfl, uZ_n (hne j hj q hq)⟩)
  by_cases e : j = b
  · subst e
    refine ⟨a1, by rw [uZ_s]; exact hr, fun h => by omega, fun h => by omega, fun h => by omega, fun h => absurd h h6, fun _ _ _ => ?_⟩
    have e2 : nearL (XN (useP f g) n (j + 1 + σ (j + 1))) ((j + σ j : Nat) : Int) un uf (env f j) G = nearL X ((j + σ j : Nat) : Int) un uf (env f j) G :=
      nearL_congr (fun q hq => ⟨by rw [hs]; exact (hx.1 q (Or.inl (by omega))).symm, rfl⟩) (fun q hq => ⟨by
        obtain ⟨y1, y2⟩ := hbin j j (Nat.le_refl _) (by omega) q hq
        rw [hs]; exact (hx.1 (200 + q) (Or.inr ⟨q, rfl, by omega, y2⟩)).symm, rfl⟩)
    rw [hnc, uZ_s, e2]; exact hch
  · refine ⟨a1, by rw [uZ_n e]; exact a2, fun h => by rw [uZ_n e]; exact a3 h, fun h => ?_, fun h => by rw [uZ_n e]; exact a5 h, fun h => by rw [uZ_n e]; exact a6 h, fun h1 h2 h3 => ?_⟩
    · have hg := (hcA j (by omega)).1 h
      have hm : (env f j).getD (g j).toNat 0 ∈ env f j := by
        have hi : (g j).toNat < (env f j).length := by show (g j).toNat < dep f j; omega
        rw [List.getD_eq_getElem?_getD, List.getElem?_eq_getElem hi]; exact List.getElem_mem hi
      rw [uZ_n e, uZ_n (hne j hj _ hm)]; exact a4 h
    · rw [uZ_n e, hnc]
      refine a7 h1 h2 ?_
      by_cases e3 : j + 1 + σ (j + 1) = k
      · have q1 := sec_hd hz h0 (show j < n by omega) h1 e3
        have q2 := sec_hd hz h0 (show b < n by omega) hbp hs
        rw [q1] at q2; omega
      · omega
/-- a row that grew by one node -/
theorem rL_one {ρ ρ' : RowT} {x : Int × Int} (h : rL ρ' = rL ρ ++ [x]) : rN ρ' = rN ρ + 1 ∧ (∀ j, j < rN ρ → rF ρ' j = rF ρ j ∧ rG ρ' j = rG ρ j) ∧ (rF ρ' (rN ρ), rG ρ' (rN ρ)) = x := by
  have hl := congrArg List.length h
  rw [Lr_len, List.length_append, Lr_len] at hl
  have hl2 : rN ρ' = rN ρ + 1 := hl
  have h2 : Lr (rN ρ + 1) (rF ρ') (rG ρ') = rL ρ ++ [x] := by rw [← hl2]; exact h
  rw [Lr_succ] at h2
  have h3 := List.append_inj h2 (by rw [Lr_len, Lr_len])
  refine ⟨hl2, (Lr_eq h3.1).2, ?_⟩
  have := h3.2
  simpa using this
