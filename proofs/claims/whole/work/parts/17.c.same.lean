-- what class and reference write is the same
section SaS
variable {n : Nat} {f g : Nat → Int} {σ : Nat → Nat}
theorem env_in (hz : Sz n f σ 0) (h0 : σ 0 = n) {t : Nat} (ht : t < n) : ∀ m j, j ≤ m → t ≤ j → j < t + σ t → ∃ pre, env f j = pre ++ env f t ∧ ∀ q ∈ pre, t ≤ q := by
  have hte := (hz t (Nat.zero_le _) ht).2.1
  intro m
  induction m with
  | zero =>
    intro j h1 h2 h3
    have e : j = t := by omega
    subst e
    exact ⟨[], rfl, fun q hq => by cases hq⟩
  | succ m ih =>
    intro j h1 h2 h3
    by_cases e : j = t
    · subst e
      exact ⟨[], rfl, fun q hq => by cases hq⟩
    obtain ⟨p, q0, q1, q2, q3⟩ := par_in hz _ t rfl ht j (by omega) h3
    obtain ⟨pre, k1, k2⟩ := ih p (by omega) q0 (by omega)
    rcases q3 with q3 | q3
    · refine ⟨pre, ?_, k2⟩
      rw [q3, env_1 hz h0 (by omega) q2, k1]
    · rw [q3, env_2 hz h0 (by omega) q2]
      unfold lastE
      by_cases hb : bP (f p)
      · rw [if_pos hb, k1]
        refine ⟨p :: pre, rfl, fun q hq => ?_⟩
        rcases List.mem_cons.mp hq with hq | hq
        · omega
        · exact k2 q hq
      · rw [if_neg hb, k1]
        exact ⟨pre, rfl, k2⟩
theorem env_sub (hz : Sz n f σ 0) (h0 : σ 0 = n) : ∀ m k, k ≤ m → k < n → ∀ b ∈ env f k, k < b + σ b := by
  intro m
  induction m with
  | zero =>
    intro k h1 h2 b hb
    have e : k = 0 := by omega
    subst e
    have := env_le hz h0 h2
    have e2 : env f 0 = [] := List.length_eq_zero_iff.mp (by omega)
    rw [e2] at hb; cases hb
  | succ m ih =>
    intro k h1 h2 b hb
    by_cases hk : k ≤ m
    · exact ih k hk h2 b hb
    obtain ⟨p, q1, q2, q3⟩ := par hz h0 (show 0 < k by omega) h2
    obtain ⟨a1, a2, a3, a4⟩ := hz p (Nat.zero_le _) (by omega)
    obtain ⟨c1, c2, c3⟩ := a3 q2
    obtain ⟨s1, -⟩ := hz (p + 1) (Nat.zero_le _) c1
    obtain ⟨s2, -⟩ := hz (p + 1 + σ (p + 1)) (Nat.zero_le _) c2
    have key : b ∈ env f p → k < b + σ b := fun hb => by
      have h3 := ih p (by omega) (by omega) b hb
      have h4 := (env_bP hz h0 p p (Nat.le_refl _) (by omega) b hb).1
      have h5 := nest hz _ b rfl (by omega) p (by omega) h3
      omega
    rcases q3 with q3 | q3
    · rw [q3, env_1 hz h0 (by omega) q2] at hb
      exact key hb
    · rw [q3, env_2 hz h0 (by omega) q2] at hb
      unfold lastE at hb
      split at hb
      · rcases List.mem_cons.mp hb with hb | hb
        · subst hb; omega
        · exact key hb
      · exact key hb
theorem bOf_mem {j : Nat} (h : 0 ≤ g j ∧ g j < ((env f j).length : Int)) : bOf f g j ∈ env f j := by
  have hi : (g j).toNat < (env f j).length := by omega
  show (env f j).getD (g j).toNat 0 ∈ env f j
  rw [List.getD_eq_getElem?_getD, List.getElem?_eq_getElem hi]
  exact List.getElem_mem hi
theorem oB_ex {ev : List Nat} {b : Nat} (h : b ∈ ev) : ∃ p, p < ev.length ∧ oB ev p = b := by
  obtain ⟨i, hi, e⟩ := List.getElem_of_mem h
  refine ⟨ev.length - 1 - i, by omega, ?_⟩
  unfold oB
  rw [show ev.length - 1 - (ev.length - 1 - i) = i by omega, List.getD_eq_getElem?_getD, List.getElem?_eq_getElem hi]
  exact e
theorem use_7 {j q : Nat} (hq : q < 200) (h : useP f g j = (q : Int)) : f j = 7 ∧ g j = (q : Int) := by
  unfold useP at h
  split at h
  · exact ⟨by assumption, h⟩
  · split at h <;> omega
theorem use_0 {un j b : Nat} (hun : un ≤ 200) (hc : clo f g un j) (h : useP f g j = ((200 + b : Nat) : Int)) : f j = 0 ∧ bOf f g j = b := by
  unfold useP at h
  split at h
  · have := hc.2 (by assumption); omega
  · split at h
    · refine ⟨by assumption, ?_⟩
      show (env f j).getD (g j).toNat 0 = b
      omega
    · omega
theorem near_ctc {un : Nat} {uf G : Nat → Int} (hz : Sz n f σ 0) (h0 : σ 0 = n) (hn : n ≤ 3000) (hun : un ≤ 200) (hc : ∀ j, j < n → clo f g un j) {k : Nat} (hk : k < n) (hb : bP (f k)) (z : Int) : z ∈ nearL (XN (useP f g) n (k + 1 + σ (k + 1))) ((k + σ k : Nat) : Int) un uf (env f k) G ↔ ctc f g uf G k (k + 1 + σ (k + 1)) (k + σ k) z := by
  obtain ⟨s1, s2, s3, s4⟩ := hz k (Nat.zero_le _) hk
  obtain ⟨p1, p2, p3⟩ := s3 (by omega)
  have hbk := env_bP hz h0 k k (Nat.le_refl _) hk
  have hlt : ∀ q : Nat, XN (useP f g) n (k + 1 + σ (k + 1)) q < ((k + σ k : Nat) : Int) ↔ ∃ j, k + 1 + σ (k + 1) ≤ j ∧ j < k + 1 + σ (k + 1) + (n - (k + 1 + σ (k + 1))) ∧ useP f g j = (q : Int) ∧ j < k + σ k := fun q => nxt_lt (by omega)
  unfold nearL
  rw [List.mem_append]
  constructor
  · rintro (h | h)
    · unfold gpL at h
      obtain ⟨q, h1, h2⟩ := List.mem_map.mp h
      obtain ⟨h3, h4⟩ := List.mem_filter.mp h1
      have hq := List.mem_range.mp h3
      obtain ⟨j, j1, j2, j3, j4⟩ := (hlt q).mp (of_decide_eq_true h4)
      obtain ⟨c1, c2⟩ := use_7 (by omega) j3
      refine ⟨j, j1, j4, Or.inl ⟨c1, ?_⟩⟩
      rw [c2]; exact h2
    · unfold opL at h
      obtain ⟨p, h1, h2⟩ := List.mem_map.mp h
      obtain ⟨h3, h4⟩ := List.mem_filter.mp h1
      have hp := List.mem_range.mp h3
      obtain ⟨j, j1, j2, j3, j4⟩ := (hlt (200 + oB (env f k) p)).mp (of_decide_eq_true h4)
      obtain ⟨c1, c2⟩ := use_0 hun (hc j (by omega)) j3
      have hm := (hbk _ (oB_mem hp)).1
      refine ⟨j, j1, j4, Or.inr ⟨c1, by rw [c2]; exact hm, by rw [c2]; exact h2⟩⟩
  · rintro ⟨j, j1, j2, j3 | j3⟩
    · left
      have hg := (hc j (by omega)).2 j3.1
      unfold gpL
      refine List.mem_map.mpr ⟨(g j).toNat, List.mem_filter.mpr ⟨List.mem_range.mpr (by omega), decide_eq_true ((hlt _).mpr ⟨j, j1, by omega, ?_, j2⟩)⟩, j3.2⟩
      unfold useP; rw [if_pos j3.1]; omega
    · right
      obtain ⟨c1, c2, c3⟩ := j3
      have hg := (hc j (by omega)).1 c1
      have hm : bOf f g j ∈ env f j := bOf_mem hg
      obtain ⟨pre, e1, e2⟩ := env_in hz h0 p2 j j (Nat.le_refl _) j1 (by omega)
      rw [env_2 hz h0 hk (by omega)] at e1
      unfold lastE at e1
      rw [if_pos hb] at e1
      have hm2 : bOf f g j ∈ env f k := by
        rw [e1] at hm
        rcases List.mem_append.mp hm with h | h
        · have := e2 _ h; omega
        · rcases List.mem_cons.mp h with h | h
          · omega
          · exact h
      obtain ⟨p, hp, e3⟩ := oB_ex hm2
      unfold opL
      refine List.mem_map.mpr ⟨p, List.mem_filter.mpr ⟨List.mem_range.mpr hp, decide_eq_true ((hlt _).mpr ⟨j, j1, by omega, ?_, j2⟩)⟩, by rw [e3]; exact c3⟩
      rw [e3]
      unfold useP; rw [if_neg (by omega), if_pos c1]
      show (200 : Int) + ((bOf f g j : Nat) : Int) = ((200 + bOf f g j : Nat) : Int)
      omega
theorem isUse_iff {un : Nat} (hz : Sz n f σ 0) (h0 : σ 0 = n) (hc : ∀ j, j < n → clo f g un j) {k : Nat} (hk : k < n) (hb : bP (f k)) {i : Nat} (h1 : k + 1 + σ (k + 1) ≤ i) (h2 : i < k + σ k) : isUse f g k i ↔ f i = 0 ∧ bOf f g i = k := by
  obtain ⟨s1, s2, s3, s4⟩ := hz k (Nat.zero_le _) hk
  obtain ⟨p1, p2, p3⟩ := s3 (by omega)
  have hbk := env_bP hz h0 k k (Nat.le_refl _) hk
  obtain ⟨pre, e1, e2⟩ := env_in hz h0 p2 i i (Nat.le_refl _) h1 (by omega)
  rw [env_2 hz h0 hk (by omega)] at e1
  unfold lastE at e1
  rw [if_pos hb] at e1
  have hl : (env f i).length = pre.length + ((env f k).length + 1) := by rw [e1, List.length_append, List.length_cons]
  constructor
  · rintro ⟨a, b⟩
    refine ⟨a, ?_⟩
    have hb2 : g i = (((env f i).length : Nat) : Int) - ((((env f k).length : Nat) : Int) + 1) := b
    show (env f i).getD (g i).toNat 0 = k
    rw [show (g i).toNat = pre.length by omega, e1, List.getD_eq_getElem?_getD, List.getElem?_append_right (Nat.le_refl _), Nat.sub_self]
    rfl
  · rintro ⟨a, b⟩
    refine ⟨a, ?_⟩
    show g i = (((env f i).length : Nat) : Int) - ((((env f k).length : Nat) : Int) + 1)
    have hg : 0 ≤ g i ∧ g i < (((env f i).length : Nat) : Int) := (hc i (by omega)).1 a
    have hb3 : (env f i).getD (g i).toNat 0 = k := b
    rw [e1, List.getD_eq_getElem?_getD] at hb3
    rcases Nat.lt_trichotomy (g i).toNat pre.length with h | h | h
    · rw [List.getElem?_append_left h, List.getElem?_eq_getElem h] at hb3
      have := e2 _ (List.getElem_mem h)
      have hb4 : pre[(g i).toNat] = k := hb3
      omega
    · omega
    · rw [List.getElem?_append_right (by omega)] at hb3
      obtain ⟨c, hc9⟩ : ∃ c, (g i).toNat - pre.length = c + 1 := ⟨(g i).toNat - pre.length - 1, by omega⟩
      have hci : c < (env f k).length := by omega
      rw [hc9, List.getElem?_cons_succ, List.getElem?_eq_getElem hci] at hb3
      have := (hbk _ (List.getElem_mem hci)).1
      have hb4 : (env f k)[c] = k := hb3
      omega
theorem uCnt_0_iff (f g : Nat → Int) (b lo m : Nat) : uCnt f g b lo m = 0 ↔ ∀ i, lo ≤ i → i < lo + m → ¬ isUse f g b i := by
  unfold uCnt
  rw [List.countP_eq_zero]
  constructor
  · intro h i h1 h2 h3
    exact h i (List.mem_range'_1.mpr ⟨h1, h2⟩) (decide_eq_true h3)
  · intro h i hi h3
    obtain ⟨h1, h2⟩ := List.mem_range'_1.mp hi
    exact h i h1 h2 (of_decide_eq_true h3)
theorem unused_iff {un : Nat} (hz : Sz n f σ 0) (h0 : σ 0 = n) (hn : n ≤ 3000) (hun : un ≤ 200) (hc : ∀ j, j < n → clo f g un j) {k : Nat} (hk : k < n) (hb : bP (f k)) : XN (useP f g) n k (200 + k) = 3000 ↔ uCnt f g k (k + 1 + σ (k + 1)) (σ (k + 1 + σ (k + 1))) = 0 := by
  obtain ⟨s1, s2, s3, s4⟩ := hz k (Nat.zero_le _) hk
  obtain ⟨p1, p2, p3⟩ := s3 (by omega)
  rw [uCnt_0_iff]
  constructor
  · intro h i h1 h2 h3
    obtain ⟨c1, c2⟩ := (isUse_iff hz h0 hc hk hb h1 (by omega)).mp h3
    rcases nxt_cases (useP f g) ((200 + k : Nat) : Int) k (n - k) with ⟨-, g2⟩ | ⟨j, g1, g2, g3, -⟩
    · refine g2 i (by omega) (by omega) ?_
      unfold useP; rw [if_neg (by omega), if_pos c1]
      show (200 : Int) + ((bOf f g i : Nat) : Int) = ((200 + k : Nat) : Int)
      rw [c2]; omega
    · have h9 : nxt (useP f g) ((200 + k : Nat) : Int) k (n - k) = 3000 := h
      omega
  · intro h
    show nxt (useP f g) ((200 + k : Nat) : Int) k (n - k) = 3000
    refine nxt_none (fun j h1 h2 h3 => ?_)
    obtain ⟨c1, c2⟩ := use_0 hun (hc j (by omega)) h3
    have hm : bOf f g j ∈ env f j := bOf_mem ((hc j (by omega)).1 c1)
    rw [c2] at hm
    have q1 := env_sec hz h0 j j (Nat.le_refl _) (by omega) k hm
    have q2 := env_sub hz h0 j j (Nat.le_refl _) (by omega) k hm
    exact h j q1 (by omega) ((isUse_iff hz h0 hc hk hb q1 q2).mpr ⟨c1, c2⟩)
end SaS
theorem chs_chP {own : Int} {NL : List Int} {r : Int} (ho : 1 ≤ own) (hl : NL.length ≤ 9000) (hn : ∀ z ∈ NL, 0 ≤ z) (h : chs own NL r) : chP own (fun z => z ∈ NL) r := by
  rcases h with ⟨h1, h2⟩ | ⟨h1, m, h2, h3⟩
  · refine ⟨0, by omega, ?_, ?_, fun i hi => by omega⟩
    · rw [h2]; exact (nmb_0 own).symm
    · show nmb own 0 ∉ NL
      rw [nmb_0]; exact h1
  · obtain ⟨l1, l2, l3, l4⟩ := h2
    have hlen : 1 ≤ NL.length := by
      cases NL with
      | nil => cases h1
      | cons a b => simp
    have hm9 : m ≤ 9000 := by omega
    have taken : ∀ i : Nat, i < m → nmb own i ∈ NL := by
      intro i hi
      by_cases e : i = 0
      · subst e
        show nmb own 0 ∈ NL
        rw [nmb_0]; exact h1
      · obtain ⟨j, j1, j2⟩ := l3 i (by omega) hi
        have hj : NL.getD j 0 ∈ NL := by
          rw [List.getD_eq_getElem?_getD, List.getElem?_eq_getElem j1]; exact List.getElem_mem j1
        have := nmb_nbh (hn _ hj) (show (1 : Int) ≤ (i : Int) by omega) (by omega) j2
        rw [← this]; exact hj
    refine ⟨m, by omega, h3, fun hmem => ?_, taken⟩
    obtain ⟨j, j1, j2⟩ := List.getElem_of_mem hmem
    by_cases hlt : m < NL.length
    · refine l4 hlt j j1 ?_
      show nbh own 7 (NL.getD j 0) 0 1 = m
      rw [List.getD_eq_getElem?_getD, List.getElem?_eq_getElem j1]
      show nbh own 7 (NL[j]) 0 1 = m
      rw [j2]
      exact nbh_nmb ho (by omega) (by omega)
    · have hmN : m = NL.length := by omega
      have hall : ∀ i : Nat, i ≤ NL.length → nmb own i ∈ NL := fun i hi => by
        by_cases e : i = m
        · rw [e]; exact hmem
        · exact taken i (by omega)
      obtain ⟨hx, hh⟩ : ∃ hx : Nat → Nat, ∀ i, i ≤ NL.length → ∃ q : hx i < NL.length, NL[hx i] = nmb own i := by
        refine ⟨fun i => if q : i ≤ NL.length then (List.getElem_of_mem (hall i q)).choose else 0, fun i hi => ?_⟩
        have e9 : (if q : i ≤ NL.length then (List.getElem_of_mem (hall i q)).choose else 0) = (List.getElem_of_mem (hall i hi)).choose := dif_pos hi
        obtain ⟨k1, k2⟩ := (List.getElem_of_mem (hall i hi)).choose_spec
        refine ⟨by show (if q : i ≤ NL.length then (List.getElem_of_mem (hall i q)).choose else 0) < _; rw [e9]; exact k1, ?_⟩
        simp only [e9]
        exact k2
      refine pigeon NL.length hx (fun i hi => (hh i hi).1) (fun a b ha hb e => ?_)
      obtain ⟨a1, a2⟩ := hh a ha
      obtain ⟨b1, b2⟩ := hh b hb
      simp only [e] at a2
      exact nmb_inj ho (by omega) (by omega) (a2.symm.trans b2)
/-- the two ways to write agree -/
theorem wr_same {n un : Nat} {f g uf : Nat → Int} {σ : Nat → Nat} {F G F' Q : Nat → Int} (hz : Sz n f σ 0) (h0 : σ 0 = n) (hn : n ≤ 3000) (hun : un ≤ 200) (hc : ∀ j, j < n → clo f g un j) (hkT : kT f n) (hg4 : ∀ j, j < n → f j = 4 → g j = 0) (hgn : ∀ j, j < n → 0 ≤ g j) (hu : ∀ i, i < un → 0 ≤ uf i) (h1 : ∀ j, j < n → wOK f g σ n un uf n F G j) (h2 : ∀ j, j < n → wRf f g uf σ F' Q j) : ∀ m j, j ≤ m → j < n → F j = F' j ∧ G j = Q j := by
  intro m
  induction m using Nat.strongRecOn with
  | ind m ih =>
    intro j hjm hj
    obtain ⟨a1, a2, a3, a4, a5, a6, a7⟩ := h1 j hj
    obtain ⟨b1, b2, b3, b4, b5, b6, b7, -⟩ := h2 j hj
    have hk := hkT j hj
    have prev : ∀ i, i < j → F i = F' i ∧ G i = Q i := fun i hi => ih i (by omega) i (Nat.le_refl _) (by omega)
    have hF : F j = F' j := by
      rw [a1, b1]
      unfold wK
      by_cases e7 : f j = 7
      · rw [if_pos e7, if_pos e7]
      rw [if_neg e7, if_neg e7]
      by_cases e2 : f j = 2
      · rw [if_pos e2]
        have hui := unused_iff hz h0 hn hun hc hj (show bP (f j) by omega)
        by_cases eu : XN (useP f g) n j (200 + j) = 3000
        · rw [if_pos eu, if_pos ⟨e2, hui.mp eu⟩]
        · rw [if_neg eu, if_neg (fun q => eu (hui.mpr q.2)), e2]
      · rw [if_neg e2, if_neg (fun q => e2 q.1)]
    refine ⟨hF, ?_⟩
    by_cases e7 : f j = 7
    · rw [a3 e7, b2 e7]
    by_cases e0 : f j = 0
    · have hm := bOf_mem ((hc j hj).1 e0)
      have hlt := (env_bP hz h0 j j (Nat.le_refl _) hj _ hm).1
      rw [a4 e0, b3 e0]
      exact (prev _ hlt).2
    by_cases e5 : f j = 5
    · rw [a5 (Or.inr e5), b4 e5]
    by_cases e4 : f j = 4
    · rw [a5 (Or.inl e4), b5 e4, hg4 j hj e4]
    have hb : bP (f j) := by omega
    by_cases e6 : F j = 6
    · rw [a6 e6, b6 (by rw [← hF]; exact e6)]
    obtain ⟨s1, s2, s3, s4⟩ := hz j (Nat.zero_le _) hj
    obtain ⟨p1, p2, p3⟩ := s3 (by omega)
    have c1 := a7 hb e6 p2
    have c2 := b7 hb (by rw [← hF]; exact e6)
    have ho : 1 ≤ ownN (g j) := by
      have := hgn j hj
      unfold ownN; split <;> omega
    have hbk := env_bP hz h0 j j (Nat.le_refl _) hj
    have hlen : (nearL (XN (useP f g) n (j + 1 + σ (j + 1))) ((j + σ j : Nat) : Int) un uf (env f j) G).length ≤ 9000 := by
      unfold nearL; rw [List.length_append]
      have y1 := gpL_len (XN (useP f g) n (j + 1 + σ (j + 1))) ((j + σ j : Nat) : Int) uf un
      have y2 := opL_len (XN (useP f g) n (j + 1 + σ (j + 1))) ((j + σ j : Nat) : Int) (env f j) G (env f j).length
      have y3 := env_le hz h0 hj
      omega
    have hnn : ∀ z ∈ nearL (XN (useP f g) n (j + 1 + σ (j + 1))) ((j + σ j : Nat) : Int) un uf (env f j) G, 0 ≤ z := by
      intro z hz9
      obtain ⟨i, i1, i2⟩ := List.getElem_of_mem hz9
      have := near_nn (X := XN (useP f g) n (j + 1 + σ (j + 1))) (e := ((j + σ j : Nat) : Int)) (un := un) (uf := uf) (ev := env f j) (wr := G) (N := j) hu (fun i hi => (h1 i (by omega)).2.1) (fun q hq => (hbk q hq).1) i i1
      rw [List.getD_eq_getElem?_getD, List.getElem?_eq_getElem i1] at this
      rw [← i2]; exact this
    have c3 := chs_chP ho hlen hnn c1
    have c4 := chP_c c3 (fun z => (near_ctc hz h0 hn hun hc hj hb z).trans (ctc_congr (fun i hi => (prev i hi).2)))
    exact chP_u c4 c2
