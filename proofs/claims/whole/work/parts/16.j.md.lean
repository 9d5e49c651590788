-- writing, as the reference does it
/-- the binder that node j uses -/
def bOf (f g : Nat → Int) (j : Nat) : Nat := (env f j).getD (g j).toNat 0
/-- the search for the binder of node k, at part p, with b binders to pass -/
def fbS (f : Nat → Int) (O : Nat → Int) (k p : Nat) (b : Int) (R : Nat) : Prop := (b = -1 ∧ O k = (R : Int)) ∨ (0 ≤ b ∧ b < ((env f p).length : Int) ∧ (env f p).getD b.toNat 0 = R)
def fbI (f : Nat → Int) (O : Nat → Int) (k p : Nat) (b : Int) (R : Nat) : Prop := (f k = 0 ∧ fbS f O k p b R) ∨ (f k ≠ 0 ∧ b = -1)
theorem fbI_pos {f O : Nat → Int} {k p R : Nat} {b : Int} (h : fbI f O k p b R) (hb : 0 ≤ b) : f k = 0 ∧ b < ((env f p).length : Int) ∧ (env f p).getD b.toNat 0 = R := by
  rcases h with ⟨h1, h2 | h2⟩ | h
  · have := h2.1; omega
  · exact ⟨h1, h2.2⟩
  · have := h.2; omega
theorem fbI_end {f O : Nat → Int} {k p R : Nat} {b : Int} (h : fbI f O k p b R) (hb : b < 0) (h0 : f k = 0) : O k = (R : Int) := by
  rcases h with ⟨h1, h2 | h2⟩ | h
  · exact h2.2
  · have := h2.1; omega
  · exact absurd h0 h.1
theorem fbI_in {f O : Nat → Int} {k p R : Nat} {b : Int} {n : Nat} {σ : Nat → Nat} (hz : Sz n f σ 0) (h0 : σ 0 = n) (hp : p < n) (h : fbI f O k p b R) : -1 ≤ b ∧ b < 3000 + n := by
  have := env_le hz h0 hp
  rcases h with ⟨h1, h2 | h2⟩ | h
  · have := h2.1; omega
  · have h3 := h2.1; have h4 := h2.2.1; omega
  · have := h.2; omega
theorem fbI_up {f O O' : Nat → Int} {k p q R : Nat} {b : Int} (h : fbI f O k p b R) (hb : 0 ≤ b) (e : env f p = env f q) : fbI f O' k q b R := by
  obtain ⟨h1, h2, h3⟩ := fbI_pos h hb
  rw [e] at h2 h3
  exact Or.inl ⟨h1, Or.inr ⟨hb, h2, h3⟩⟩
theorem fbI_hit {f O : Nat → Int} {k p q R : Nat} {b : Int} (h : fbI f O k p b R) (hb : b = 0) (e : env f p = q :: env f q) : fbI f (uZ O k (q : Int)) k q (b - 1) R := by
  obtain ⟨h1, h2, h3⟩ := fbI_pos h (by omega)
  rw [e, hb] at h3
  have h4 : q = R := h3
  exact Or.inl ⟨h1, Or.inl ⟨by omega, by rw [uZ_s, h4]⟩⟩
theorem fbI_pass {f O : Nat → Int} {k p q R : Nat} {b : Int} (h : fbI f O k p b R) (hb : 0 ≤ b) (hb0 : b ≠ 0) (e : env f p = q :: env f q) : fbI f (uZ O k (-1)) k q (b - 1) R := by
  obtain ⟨h1, h2, h3⟩ := fbI_pos h hb
  rw [e] at h2 h3
  rw [List.length_cons] at h2
  refine Or.inl ⟨h1, Or.inr ⟨by omega, by omega, ?_⟩⟩
  obtain ⟨c, rfl⟩ : ∃ c : Nat, b = ((c + 1 : Nat) : Int) := ⟨b.toNat - 1, by omega⟩
  have e2 : (((c + 1 : Nat) : Int) - 1).toNat = c := by omega
  rw [e2]
  exact h3
/-- node j stands for the name z, seen from binder k -/
def ctj (K B G S : Nat → Int) (k : Nat) (z : Int) (j : Nat) : Prop := (K j = 7 ∧ G (B j).toNat = z) ∨ (K j = 0 ∧ bOf K B j < k ∧ S (bOf K B j) = z)
def ctc (K B G S : Nat → Int) (k lo hi : Nat) (z : Int) : Prop := ∃ j, lo ≤ j ∧ j < hi ∧ ctj K B G S k z j
theorem pigeon : ∀ (N : Nat) (h : Nat → Nat), (∀ r, r ≤ N → h r < N) → (∀ a b, a ≤ N → b ≤ N → h a = h b → a = b) → False
  | 0, h, h1, _ => by have := h1 0 (Nat.le_refl _); omega
  | N + 1, h, h1, h2 => by
    refine pigeon N (fun r => if h r = N then h (N + 1) else h r) (fun r hr => ?_) (fun a b ha hb e => ?_)
    · show (if h r = N then h (N + 1) else h r) < N
      have q1 := h1 r (by omega)
      have q2 := h1 (N + 1) (Nat.le_refl _)
      split
      · have : h (N + 1) ≠ N := fun z => by
          have := h2 r (N + 1) (by omega) (Nat.le_refl _) (by omega)
          omega
        omega
      · omega
    · have e' : (if h a = N then h (N + 1) else h a) = (if h b = N then h (N + 1) else h b) := e
      have k1 := h2 a b (by omega) (by omega)
      have k2 := h2 a (N + 1) (by omega) (Nat.le_refl _)
      have k3 := h2 b (N + 1) (by omega) (Nat.le_refl _)
      split at e' <;> split at e'
      · exact k1 (by omega)
      · have := k3 e'.symm; omega
      · have := k2 e'; omega
      · exact k1 e'
theorem nmb_0 (z : Int) : nmb z 0 = z := by
  unfold nmb nst
  rw [if_neg (by decide), if_neg (by decide), if_neg (by decide), if_neg (by decide)]
theorem nmb_gt {z m : Int} (hz : 1 ≤ z) (h1 : 1 ≤ m) (h2 : m ≤ 9999) : z < nmb z m := by
  by_cases a : m ≤ 9
  · rw [nmb_1 h1 a]; omega
  by_cases b : m ≤ 99
  · rw [nmb_2 (by omega) b]; omega
  by_cases c : m ≤ 999
  · rw [nmb_3 (by omega) c]; omega
  · rw [nmb_4 (by omega) h2]; omega
theorem nmb_inj {z : Int} {a b : Nat} (hz : 1 ≤ z) (ha : a ≤ 9999) (hb : b ≤ 9999) (e : nmb z a = nmb z b) : a = b := by
  by_cases a0 : a = 0
  · by_cases b0 : b = 0
    · omega
    · have := nmb_gt hz (show (1 : Int) ≤ (b : Int) by omega) (by omega)
      rw [← e, a0] at this
      have e2 := nmb_0 z
      rw [show ((0 : Nat) : Int) = 0 from rfl, e2] at this
      omega
  · by_cases b0 : b = 0
    · have := nmb_gt hz (show (1 : Int) ≤ (a : Int) by omega) (by omega)
      rw [e, b0] at this
      have e2 := nmb_0 z
      rw [show ((0 : Nat) : Int) = 0 from rfl, e2] at this
      omega
    · have h1 := nbh_nmb hz (show (1 : Int) ≤ (a : Int) by omega) (by omega)
      have h2 := nbh_nmb hz (show (1 : Int) ≤ (b : Int) by omega) (by omega)
      rw [e, h2] at h1
      omega
theorem ctj_nm {K B G S : Nat → Int} {k : Nat} {z w : Int} {j : Nat} (h1 : ctj K B G S k z j) (h2 : ctj K B G S k w j) : z = w := by
  rcases h1 with h1 | h1 <;> rcases h2 with h2 | h2
  · rw [← h1.2, ← h2.2]
  · have := h1.1; have := h2.1; omega
  · have := h1.1; have := h2.1; omega
  · rw [← h1.2.2, ← h2.2.2]
theorem ctc_free {K B G S : Nat → Int} {k lo hi : Nat} {own : Int} (ho : 1 ≤ own) (hh : hi - lo ≤ 3000) : ∃ r : Nat, r ≤ 3000 ∧ ¬ ctc K B G S k lo hi (nmb own r) := by
  apply Classical.byContradiction
  intro hn
  have hall : ∀ r : Nat, r ≤ 3000 → ctc K B G S k lo hi (nmb own r) := fun r hr => Classical.byContradiction fun z => hn ⟨r, hr, z⟩
  obtain ⟨h, hh2⟩ : ∃ h : Nat → Nat, ∀ r, r ≤ 3000 → lo ≤ h r ∧ h r < hi ∧ ctj K B G S k (nmb own r) (h r) := by
    refine ⟨fun r => if q : r ≤ 3000 then (hall r q).choose else 0, fun r hr => ?_⟩
    dsimp only
    rw [dif_pos hr]
    exact (hall r hr).choose_spec
  refine pigeon 3000 (fun r => h r - lo) (fun r hr => ?_) (fun a b ha hb e => ?_)
  · show h r - lo < 3000
    have := hh2 r hr; omega
  · have e' : h a - lo = h b - lo := e
    obtain ⟨a1, a2, a3⟩ := hh2 a ha
    obtain ⟨b1, b2, b3⟩ := hh2 b hb
    have e2 : h a = h b := by omega
    rw [e2] at a3
    exact nmb_inj ho (by omega) (by omega) (ctj_nm a3 b3)
/-- r is own with the least number behind it for which P doesn't hold -/
def chP (own : Int) (P : Int → Prop) (r : Int) : Prop := ∃ m : Nat, m ≤ 9999 ∧ r = nmb own m ∧ ¬ P (nmb own m) ∧ ∀ i : Nat, i < m → P (nmb own i)
theorem chP_u {own : Int} {P : Int → Prop} {r s : Int} (h1 : chP own P r) (h2 : chP own P s) : r = s := by
  obtain ⟨m, -, rfl, h3, h4⟩ := h1
  obtain ⟨n, -, rfl, h5, h6⟩ := h2
  rcases Nat.lt_trichotomy m n with h | h | h
  · exact absurd (h6 m h) h3
  · rw [h]
  · exact absurd (h4 n h) h5
theorem chP_c {own : Int} {P Q : Int → Prop} {r : Int} (h : chP own P r) (e : ∀ z, P z ↔ Q z) : chP own Q r := by
  obtain ⟨m, h0, h1, h2, h3⟩ := h
  exact ⟨m, h0, h1, fun q => h2 ((e _).mpr q), fun i hi => (e _).mp (h3 i hi)⟩
/-- what the reference writes for node j -/
def wRf (K B G : Nat → Int) (σ : Nat → Nat) (F Q : Nat → Int) (j : Nat) : Prop :=
  (F j = if K j = 7 then 0 else if K j = 2 ∧ uCnt K B j (j + 1 + σ (j + 1)) (σ (j + 1 + σ (j + 1))) = 0 then 6 else K j) ∧ (K j = 7 → Q j = G (B j).toNat) ∧ (K j = 0 → Q j = Q (bOf K B j)) ∧ (K j = 5 → Q j = B j) ∧ (K j = 4 → Q j = 0) ∧ (F j = 6 → Q j = 0) ∧ (bP (K j) → F j ≠ 6 → chP (ownN (B j)) (ctc K B G Q j (j + 1 + σ (j + 1)) (j + σ j)) (Q j)) ∧ 0 ≤ Q j ∧ Q j < 9223372036854775808
theorem ctc_congr {K B G Q Q' : Nat → Int} {k lo hi : Nat} {z : Int} (h : ∀ j, j < k → Q j = Q' j) : ctc K B G Q k lo hi z ↔ ctc K B G Q' k lo hi z := by
  have one : ∀ Q Q' : Nat → Int, (∀ j, j < k → Q j = Q' j) → ctc K B G Q k lo hi z → ctc K B G Q' k lo hi z := by
    intro Q Q' h ⟨j, h1, h2, h3⟩
    refine ⟨j, h1, h2, ?_⟩
    rcases h3 with h3 | h3
    · exact Or.inl h3
    · exact Or.inr ⟨h3.1, h3.2.1, by rw [← h _ h3.2.1]; exact h3.2.2⟩
  exact ⟨one Q Q' h, one Q' Q (fun j hj => (h j hj).symm)⟩
/-- one node more is written -/
theorem wRf_more {K B G : Nat → Int} {σ : Nat → Nat} {F Q F' Q' : Nat → Int} {n k j : Nat} (hz : Sz n K σ 0) (h0 : σ 0 = n) (hk : k < n) (hcl : ∀ j, j < n → K j = 0 → 0 ≤ B j ∧ B j < ((env K j).length : Int)) (hj : j < k) (h : wRf K B G σ F Q j) (hF : ∀ i, i < k → F' i = F i ∧ Q' i = Q i) : wRf K B G σ F' Q' j := by
  obtain ⟨a1, a2, a3, a4, a5, a6, a7, a8⟩ := h
  obtain ⟨x1, x2⟩ := hF j hj
  refine ⟨by rw [x1]; exact a1, fun q => by rw [x2]; exact a2 q, fun q => ?_, fun q => by rw [x2]; exact a4 q, fun q => by rw [x2]; exact a5 q, fun q => by rw [x2]; exact a6 (by rw [← x1]; exact q), fun q1 q2 => ?_, by rw [x2]; exact a8⟩
  · have hb := hcl j (by omega) q
    have hlt : bOf K B j < j := (env_get hz h0 (show j < n by omega) (i := (B j).toNat) (by show _ < (env K j).length; omega)).1
    rw [x2, (hF _ (show bOf K B j < k by omega)).2]; exact a3 q
  · rw [x2]
    exact chP_c (a7 q1 (by rw [← x1]; exact q2)) (fun z => ctc_congr (fun i hi => ((hF i (by omega)).2).symm))
theorem wRf_at {K B G : Nat → Int} {σ : Nat → Nat} {F Q : Nat → Int} {k : Nat} {a z : Int} (hF : F k = a) (hQ : Q k = z) (ha : a = if K k = 7 then 0 else if K k = 2 ∧ uCnt K B k (k + 1 + σ (k + 1)) (σ (k + 1 + σ (k + 1))) = 0 then 6 else K k) (h7 : K k = 7 → z = G (B k).toNat) (h0 : K k = 0 → z = Q (bOf K B k)) (h5 : K k = 5 → z = B k) (h4 : K k = 4 → z = 0) (h6 : a = 6 → z = 0) (hb : bP (K k) → a ≠ 6 → chP (ownN (B k)) (ctc K B G Q k (k + 1 + σ (k + 1)) (k + σ k)) z) (hn : 0 ≤ z ∧ z < 9223372036854775808) : wRf K B G σ F Q k := by
  unfold wRf
  rw [hF, hQ]
  exact ⟨ha, h7, h0, h5, h4, h6, hb, hn⟩
