-- what holds of the rows between the calls
/-- the first byte of a name is less than 128 -/
def tb (z : Int) : Prop := (0 ≤ z ∧ z < 128) ∨ (256 ≤ z ∧ z < 32768) ∨ (65536 ≤ z ∧ z < 8388608) ∨ (16777216 ≤ z ∧ z < 2147483648)
theorem okName_tb {z : Int} (h : okName z) : 1 ≤ z ∧ z < 2147483648 ∧ tb z ∧ f4 z = z := by
  obtain ⟨h1, h2, h3⟩ := h
  simp only [cbg, bOK] at h3
  refine ⟨by omega, by omega, by unfold tb; omega, ?_⟩
  unfold f4; rw [if_pos h2]
theorem tb_own {z : Int} (h : tb z) : tb (ownN z) ∧ 1 ≤ ownN z ∧ ownN z < 2147483648 := by
  unfold tb at *
  unfold ownN
  split <;> omega
theorem f4_cases {z : Int} (h0 : 0 ≤ z) : (z < 4294967296 ∧ f4 z = z) ∨ (4294967296 ≤ z ∧ z < 1099511627776 ∧ f4 z = z / 256) ∨ (1099511627776 ≤ z ∧ z < 281474976710656 ∧ f4 z = z / 65536) ∨ (281474976710656 ≤ z ∧ z < 72057594037927936 ∧ f4 z = z / 16777216) ∨ (72057594037927936 ≤ z ∧ f4 z = z / 4294967296) := by
  unfold f4
  repeat' split
  all_goals omega
theorem f4_nmb {z : Int} (hz : tb z) (h1 : 1 ≤ z) {m : Int} (hm : 0 ≤ m) (hm9 : m ≤ 9999) : tb (f4 (nmb z m)) ∧ 1 ≤ nmb z m := by
  unfold tb at hz
  by_cases e0 : m = 0
  · rw [e0, nmb_0]
    have := f4_cases (z := z) (by omega)
    exact ⟨by unfold tb; omega, h1⟩
  have hgt := nmb_gt h1 (show 1 ≤ m by omega) hm9
  refine ⟨?_, by omega⟩
  have hc := f4_cases (z := nmb z m) (by omega)
  unfold tb
  by_cases a : m ≤ 9
  · have e := nmb_1 (z := z) (show 1 ≤ m by omega) a
    generalize nmb z m = w at *
    omega
  by_cases b : m ≤ 99
  · have e := nmb_2 (z := z) (show 10 ≤ m by omega) b
    generalize nmb z m = w at *
    have d1 : 1 ≤ m / 10 ∧ m / 10 ≤ 9 := by omega
    have d0 : 0 ≤ m % 10 ∧ m % 10 ≤ 9 := by omega
    generalize m / 10 = x1 at *
    generalize m % 10 = x0 at *
    omega
  by_cases c : m ≤ 999
  · have e := nmb_3 (z := z) (show 100 ≤ m by omega) c
    generalize nmb z m = w at *
    have d2 : 1 ≤ m / 100 ∧ m / 100 ≤ 9 := by omega
    have d1 : 0 ≤ m / 10 % 10 ∧ m / 10 % 10 ≤ 9 := by omega
    have d0 : 0 ≤ m % 10 ∧ m % 10 ≤ 9 := by omega
    generalize m / 100 = x2 at *
    generalize m / 10 % 10 = x1 at *
    generalize m % 10 = x0 at *
    omega
  · have e := nmb_4 (z := z) (show 1000 ≤ m by omega) hm9
    generalize nmb z m = w at *
    have d3 : 1 ≤ m / 1000 ∧ m / 1000 ≤ 9 := by omega
    have d2 : 0 ≤ m / 100 % 10 ∧ m / 100 % 10 ≤ 9 := by omega
    have d1 : 0 ≤ m / 10 % 10 ∧ m / 10 % 10 ≤ 9 := by omega
    have d0 : 0 ≤ m % 10 ∧ m % 10 ≤ 9 := by omega
    generalize m / 1000 = x3 at *
    generalize m / 100 % 10 = x2 at *
    generalize m / 10 % 10 = x1 at *
    generalize m % 10 = x0 at *
    omega
/-- a laid or a written row -/
def LI (n : Nat) (f g : Nat → Int) : Prop := ∀ j, j < n → (0 ≤ f j ∧ f j ≤ 6) ∧ (0 ≤ g j ∧ g j < 9223372036854775808) ∧ (f j = 6 → g j = 0) ∧ (f j = 0 → g j ≠ 0) ∧ (1 ≤ f j ∧ f j ≤ 3 → tb (f4 (g j))) ∧ (f j = 4 → g j = 0) ∧ (f j = 5 → g j < 2147483648)
/-- a term -/
def TI (n : Nat) (f g : Nat → Int) (un : Nat) : Prop := cloT n f g un ∧ kT f n ∧ ∀ j, j < n → (0 ≤ g j ∧ g j < 2147483648) ∧ (f j = 4 → g j = 0) ∧ (bP (f j) → tb (g j))
theorem LI_c {n : Nat} {f g f' g' : Nat → Int} (hf : agr n f f') (hg : agr n g g') (h : LI n f g) : LI n f' g' := fun j hj => by rw [← hf j hj, ← hg j hj]; exact h j hj
theorem TI_c {n : Nat} {f g f' g' : Nat → Int} {un : Nat} (hf : agr n f f') (hg : agr n g g') (h : TI n f g un) : TI n f' g' un :=
  ⟨cloT_c hf hg h.1, fun j hj => by rw [← hf j hj]; exact h.2.1 j hj, fun j hj => by rw [← hf j hj, ← hg j hj]; exact h.2.2 j hj⟩
theorem TI_un {n : Nat} {f g : Nat → Int} {un un' : Nat} (hu : un ≤ un') (h : TI n f g un) : TI n f g un' :=
  ⟨⟨h.1.1, fun j hj => ⟨(h.1.2 j hj).1, fun q => by have := (h.1.2 j hj).2 q; omega⟩⟩, h.2⟩
theorem okBes_LI {k z : Int} (h : okBes k z) : (0 ≤ k ∧ k ≤ 6) ∧ (0 ≤ z ∧ z < 9223372036854775808) ∧ (k = 6 → z = 0) ∧ (k = 0 → z ≠ 0) ∧ (1 ≤ k ∧ k ≤ 3 → tb (f4 z)) ∧ (k = 4 → z = 0) ∧ (k = 5 → z < 2147483648) := by
  rcases h with ⟨h1, h2, h3⟩ | ⟨h1, h2, h3⟩ | ⟨h1, h2⟩
  · obtain ⟨a1, a2, a3, a4⟩ := okName_tb h3
    rw [a4]
    exact ⟨by omega, by omega, fun q => by omega, fun q => by omega, fun _ => a3, fun q => by omega, fun q => by omega⟩
  · exact ⟨by omega, by omega, fun q => by omega, fun q => by omega, fun q => by omega, fun q => by omega, fun q => by omega⟩
  · exact ⟨by omega, by omega, fun q => by omega, fun q => by omega, fun q => by omega, fun q => by omega, fun q => by omega⟩
theorem LI_add {n : Nat} {f g f' g' : Nat → Int} {k z : Int} (h : LI n f g) (hf : ∀ j, j < n → f' j = f j ∧ g' j = g j) (e : f' n = k ∧ g' n = z) (hb : okBes k z) : LI (n + 1) f' g' := by
  intro j hj
  by_cases q : j = n
  · subst q
    rw [e.1, e.2]
    exact okBes_LI hb
  · obtain ⟨e1, e2⟩ := hf j (by omega)
    rw [e1, e2]
    exact h j (by omega)
/-- what is bound is a term -/
theorem bind_TI {n un : Nat} {f g uf : Nat → Int} {F P : Nat → Int} (hl : LI n f g) (hO : OneT n f) (hn : n ≤ 3000) (hun : un ≤ 200) (hb : ∀ j, j < n → bN f g un uf j = some (F j, P j)) : TI n F P un := by
  obtain ⟨h0, σ, hz, hs⟩ := hO
  have kk : ∀ j, j < n → (pP (f j) ↔ pP (F j)) ∧ ((0 ≤ F j ∧ F j ≤ 5) ∨ F j = 7) := fun j hj => bN_pP (hl j hj).1 (hb j hj)
  have shape : ∀ j, j < n → (F j = 0 ∧ f j = 0 ∧ P j = bIdx f g j (g j) ∧ P j ≠ -1) ∨ (F j = 7 ∧ f j = 0 ∧ P j = fnd un uf (g j) ∧ P j ≠ -1) ∨ ((1 ≤ f j ∧ f j ≤ 3) ∧ F j = f j ∧ P j = f4 (g j)) ∨ (f j = 6 ∧ F j = 2 ∧ P j = 0) ∨ ((f j = 4 ∨ f j = 5) ∧ F j = f j ∧ P j = g j) := by
    intro j hj
    have hk := (hl j hj).1
    have hbj := hb j hj
    by_cases e0 : f j = 0
    · by_cases e1 : bIdx f g j (g j) = -1
      · by_cases e2 : fnd un uf (g j) = -1
        · rw [bN_0n e0 e1 e2] at hbj; cases hbj
        · rw [bN_0g e0 e1 e2] at hbj
          obtain ⟨q1, q2⟩ := Prod.mk.inj (Option.some.inj hbj)
          exact Or.inr (Or.inl ⟨q1.symm, e0, q2.symm, by rw [← q2]; exact e2⟩)
      · rw [bN_0s e0 e1] at hbj
        obtain ⟨q1, q2⟩ := Prod.mk.inj (Option.some.inj hbj)
        exact Or.inl ⟨q1.symm, e0, q2.symm, by rw [← q2]; exact e1⟩
    · by_cases e3 : f j < 4
      · rw [bN_b ⟨by omega, e3⟩] at hbj
        obtain ⟨q1, q2⟩ := Prod.mk.inj (Option.some.inj hbj)
        exact Or.inr (Or.inr (Or.inl ⟨by omega, q1.symm, q2.symm⟩))
      · by_cases e6 : f j = 6
        · rw [bN_6 e6] at hbj
          obtain ⟨q1, q2⟩ := Prod.mk.inj (Option.some.inj hbj)
          exact Or.inr (Or.inr (Or.inr (Or.inl ⟨e6, q1.symm, q2.symm⟩)))
        · rw [bN_o (by omega)] at hbj
          obtain ⟨q1, q2⟩ := Prod.mk.inj (Option.some.inj hbj)
          exact Or.inr (Or.inr (Or.inr (Or.inr ⟨by omega, q1.symm, q2.symm⟩)))
  have hst : ∀ k, k ≤ n → env F k = env f k := by
    intro k hk
    have := stk_cong2 (f := F) (f' := f) k (fun j hj => by
      have h1 := shape j (by omega)
      have h2 := (hl j (by omega)).1
      omega)
    show (stk F k).headD [] = (stk f k).headD []
    rw [this]
  refine ⟨⟨⟨h0, σ, Sz_pP (fun j hj => (kk j hj).1) hz, hs⟩, fun j hj => ⟨fun q => ?_, fun q => ?_⟩⟩, fun j hj => (kk j hj).2, fun j hj => ?_⟩
  · have h1 := shape j hj
    have h2 := (hl j hj).1
    have hb3 : P j = bIdx f g j (g j) ∧ P j ≠ -1 := by
      rcases h1 with h1 | h1 | h1 | h1 | h1
      · exact h1.2.2
      · have := h1.1; omega
      · have := h1.1; have := h1.2.1; omega
      · have := h1.2.1; omega
      · have := h1.1; have := h1.2.1; omega
    have hfi := fnd_in (dep f j) (fun i => g ((env f j).getD i 0)) (g j)
    have e1 : P j = fnd (dep f j) (fun i => g ((env f j).getD i 0)) (g j) := hb3.1
    have e2 : dep F j = dep f j := by show (env F j).length = (env f j).length; rw [hst j (by omega)]
    rw [e2]
    have := hb3.2
    omega
  · have h1 := shape j hj
    have hb3 : P j = fnd un uf (g j) ∧ P j ≠ -1 := by
      rcases h1 with h1 | h1 | h1 | h1 | h1
      · have := h1.1; omega
      · exact h1.2.2
      · have := h1.1; have := h1.2.1; omega
      · have := h1.2.1; omega
      · have := h1.1; have := h1.2.1; omega
    have hfi := fnd_in un uf (g j)
    have := hb3.1
    have := hb3.2
    omega
  · obtain ⟨l1, l2, l3, l4, l5, l6, l7⟩ := hl j hj
    have hel := env_le hz hs hj
    rcases shape j hj with h1 | h1 | h1 | h1 | h1
    · have hfi := fnd_in (dep f j) (fun i => g ((env f j).getD i 0)) (g j)
      have e1 : P j = fnd (dep f j) (fun i => g ((env f j).getD i 0)) (g j) := h1.2.2.1
      have e3 : dep f j ≤ j := hel
      have e4 := h1.2.2.2
      have e5 := h1.1
      exact ⟨by omega, fun q => by omega, fun q => by omega⟩
    · have hfi := fnd_in un uf (g j)
      have e1 := h1.2.2.1
      have e4 := h1.2.2.2
      have e5 := h1.1
      exact ⟨by omega, fun q => by omega, fun q => by omega⟩
    · have ht := l5 h1.1
      rw [← h1.2.2] at ht
      have e5 := h1.2.1
      have e6 := h1.1
      refine ⟨?_, fun q => by omega, fun _ => ht⟩
      unfold tb at ht; omega
    · have e1 := h1.2.1
      have e2 := h1.2.2
      exact ⟨by omega, fun q => by omega, fun _ => by rw [e2]; exact Or.inl (by omega)⟩
    · have e1 := h1.2.1
      have e2 := h1.2.2
      have e3 := h1.1
      rw [e2]
      exact ⟨by omega, fun q => by have := l6 (by omega); omega, fun q => by omega⟩
theorem cOut_el {n : Nat} {f g : Nat → Int} {σ : Nat → Nat} (hz : Sz n f σ 0) {k b v : Nat} (h : cbv f σ n k b v) : ∀ x ∈ cOut f g σ n k b v, x.1 = 0 ∨ ∃ i, i < n ∧ x = (f i, g i) := by
  obtain ⟨a1, a2, a3, a4, a5, a6, a7⟩ := cbv_in hz h
  intro x hx
  have hsg : ∀ a m, a + m ≤ n → x ∈ seg f g a m → x.1 = 0 ∨ ∃ i, i < n ∧ x = (f i, g i) := fun a m ham hx => by
    unfold seg at hx
    obtain ⟨i, h1, h2⟩ := List.mem_map.mp hx
    obtain ⟨i1, i2⟩ := List.mem_range'_1.mp h1
    exact Or.inr ⟨i, by omega, h2.symm⟩
  unfold cOut at hx
  rcases List.mem_append.mp hx with hx | hx
  · rcases List.mem_append.mp hx with hx | hx
    · exact hsg 0 k (by have := h.1; omega) hx
    · unfold bL at hx
      obtain ⟨j, h1, h2⟩ := List.mem_flatMap.mp hx
      obtain ⟨j1, j2⟩ := List.mem_range'_1.mp h1
      unfold nL at h2
      split at h2
      · exact Or.inr ⟨j, by omega, List.mem_singleton.mp h2⟩
      · split at h2
        · unfold vL at h2
          obtain ⟨i, i1, i2⟩ := List.mem_map.mp h2
          obtain ⟨i3, i4⟩ := List.mem_range'_1.mp i1
          unfold vN at i2
          by_cases q : f i = 0
          · left; rw [← i2]; exact q
          · right
            rw [if_neg (fun z => q z.1)] at i2
            exact ⟨i, by omega, i2.symm⟩
        · left; rw [List.mem_singleton.mp h2]
  · exact hsg _ _ (by omega) hx
theorem cont_TI {n un : Nat} {f g : Nat → Int} {σ : Nat → Nat} (hz : Sz n f σ 0) (h0 : σ 0 = n) (hT : TI n f g un) {k b v : Nat} (hcb : cbv f σ n k b v) {N : Nat} {D Q : Nat → Int} (hN : N ≤ 3000) (hL : Lr N D Q = cOut f g σ n k b v) : TI N D Q un := by
  have hc := cOut_clo hz h0 hT.1 hcb hL
  obtain ⟨m0, τ, mz, ms⟩ := id hc.1
  have hel : ∀ j, j < N → D j = 0 ∨ ∃ i, i < n ∧ D j = f i ∧ Q j = g i := fun j hj => by
    have hm : (D j, Q j) ∈ cOut f g σ n k b v := by
      rw [← hL]; exact List.mem_of_getElem? (Lr_get hj)
    rcases cOut_el hz hcb _ hm with h | ⟨i, h1, h2⟩
    · exact Or.inl h
    · obtain ⟨q1, q2⟩ := Prod.mk.inj h2
      exact Or.inr ⟨i, h1, q1, q2⟩
  have h00 : ∀ j, j < N → D j = 0 → 0 ≤ Q j ∧ Q j < 2147483648 := fun j hj q => by
    have h1 := (hc.2 j hj).1 q
    have h2 := env_le mz ms hj
    have h3 : dep D j ≤ j := h2
    omega
  refine ⟨hc, fun j hj => ?_, fun j hj => ?_⟩
  · rcases hel j hj with h | ⟨i, h1, h2, h3⟩
    · omega
    · rw [h2]; exact hT.2.1 i h1
  · rcases hel j hj with h | ⟨i, h1, h2, h3⟩
    · exact ⟨h00 j hj h, fun q => by omega, fun q => by omega⟩
    · rw [h2, h3]; exact hT.2.2 i h1
/-- what is written can be laid -/
theorem wr_LI {n un : Nat} {f g uf : Nat → Int} {σ : Nat → Nat} {F Q : Nat → Int} (hz : Sz n f σ 0) (h0 : σ 0 = n) (hn : n ≤ 3000) (hun : un ≤ 200) (hT : TI n f g un) (hu : ∀ i, i < un → 1 ≤ uf i ∧ uf i < 2147483648) (h2 : ∀ j, j < n → wRf f g uf σ F Q j) : LI n F Q := by
  obtain ⟨⟨hO, hc⟩, hkT, hg⟩ := hT
  have hbn : ∀ j, j < n → bP (f j) → F j ≠ 6 → tb (f4 (Q j)) ∧ 1 ≤ Q j := fun j hj hb h6 => by
    obtain ⟨m, m1, m2, -⟩ := (h2 j hj).2.2.2.2.2.2.1 hb h6
    obtain ⟨o1, o2, o3⟩ := tb_own ((hg j hj).2.2 hb)
    rw [m2]
    exact f4_nmb o1 o2 (by omega) (by omega)
  intro j hj
  obtain ⟨b1, b2, b3, b4, b5, b6, b7, b8⟩ := h2 j hj
  have hk := hkT j hj
  obtain ⟨g1, g2, g3⟩ := hg j hj
  have hF : (f j = 7 ∧ F j = 0) ∨ (f j = 2 ∧ F j = 6) ∨ (f j ≠ 7 ∧ F j = f j) := by
    rw [b1]
    by_cases e7 : f j = 7
    · rw [if_pos e7]; omega
    · rw [if_neg e7]
      split
      · next q => have := q.1; omega
      · omega
  refine ⟨by omega, b8, b6, fun q => ?_, fun q => ?_, fun q => b5 (by omega), fun q => by rw [b4 (by omega)]; omega⟩
  · rcases hF with h | h | h
    · have h7 := (hc j hj).2 h.1
      have := hu (g j).toNat (by omega)
      rw [b2 h.1]; omega
    · omega
    · have e0 : f j = 0 := by omega
      have hcl := (hc j hj).1 e0
      have hm := bOf_mem hcl
      obtain ⟨k1, k2⟩ := env_bP hz h0 j j (Nat.le_refl _) hj _ hm
      have k3 := env_sec hz h0 j j (Nat.le_refl _) hj _ hm
      have k4 := env_sub hz h0 j j (Nat.le_refl _) hj _ hm
      have hbl : bOf f g j < n := by omega
      have hne : F (bOf f g j) ≠ 6 := fun q6 => by
        have c1 := (h2 _ hbl).1
        have hu1 := (isUse_iff hz h0 hc hbl k2 k3 k4).mpr ⟨e0, rfl⟩
        have hu2 : uCnt f g (bOf f g j) (bOf f g j + 1 + σ (bOf f g j + 1)) (σ (bOf f g j + 1 + σ (bOf f g j + 1))) ≠ 0 := fun q0 => by
          obtain ⟨s1, s2, s3, s4⟩ := hz (bOf f g j) (Nat.zero_le _) hbl
          obtain ⟨p1, p2, p3⟩ := s3 (by omega)
          exact (uCnt_0_iff _ _ _ _ _).mp q0 j k3 (by omega) hu1
        rw [if_neg (by omega), if_neg (fun z => hu2 z.2)] at c1
        have := hkT _ hbl
        omega
      have := (hbn _ hbl k2 hne).2
      rw [b3 e0]; omega
  · rcases hF with h | h | h
    · omega
    · omega
    · exact (hbn j hj (by omega) (by omega)).1
