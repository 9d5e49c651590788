-- rows that agree
theorem stk_cong2 {f f' : Nat → Int} : ∀ k, (∀ j, j < k → (bP (f j) ↔ bP (f' j)) ∧ (f j = 4 ↔ f' j = 4)) → stk f k = stk f' k
  | 0, _ => rfl
  | k + 1, h => by
    have ih := stk_cong2 k (fun j hj => h j (by omega))
    obtain ⟨h1, h2⟩ := h k (by omega)
    cases hs : stk f k with
    | nil => rw [stk_0 hs, stk_0 (by rw [← ih]; exact hs)]
    | cons e r =>
      have hs' : stk f' k = e :: r := by rw [← ih]; exact hs
      by_cases hb : bP (f k)
      · rw [stk_b hs hb, stk_b hs' (h1.mp hb)]
      by_cases ha : f k = 4
      · rw [stk_a hs ha, stk_a hs' (h2.mp ha)]
      · have hb' : ¬ bP (f' k) := fun q => hb (h1.mpr q)
        have ha' : ¬ f' k = 4 := fun q => ha (h2.mpr q)
        rw [stk_l hs (by omega), stk_l hs' (by omega)]
def agr (n : Nat) (f f' : Nat → Int) : Prop := ∀ j, j < n → f j = f' j
theorem agr.env {n : Nat} {f f' : Nat → Int} (h : agr n f f') {k : Nat} (hk : k ≤ n) : env f k = env f' k := by
  have := stk_cong2 (f := f) (f' := f') k (fun j hj => by rw [h j (by omega)]; exact ⟨Iff.rfl, Iff.rfl⟩)
  show (stk f k).headD [] = (stk f' k).headD []
  rw [this]
theorem agr.sz {n : Nat} {f f' : Nat → Int} (h : agr n f f') {σ : Nat → Nat} (hz : Sz n f σ 0) : Sz n f' σ 0 := Sz_pP (fun j hj => by rw [h j hj]) hz
theorem agr.one {n : Nat} {f f' : Nat → Int} (h : agr n f f') : OneT n f ↔ OneT n f' :=
  ⟨fun ⟨h0, σ, h1, h2⟩ => ⟨h0, σ, h.sz h1, h2⟩, fun ⟨h0, σ, h1, h2⟩ => ⟨h0, σ, (show agr n f' f from fun j hj => (h j hj).symm).sz h1, h2⟩⟩
theorem agr.sym {n : Nat} {f f' : Nat → Int} (h : agr n f f') : agr n f' f := fun j hj => (h j hj).symm
section AgS
variable {n : Nat} {f g f' g' : Nat → Int} {σ : Nat → Nat}
theorem clo_c (hf : agr n f f') (hg : agr n g g') {un k : Nat} (hk : k < n) (h : clo f g un k) : clo f' g' un k := by
  unfold clo at h ⊢
  have e : dep f' k = dep f k := by show (env f' k).length = (env f k).length; rw [hf.env (by omega)]
  rw [← hf k hk, ← hg k hk, e]; exact h
theorem cloT_c (hf : agr n f f') (hg : agr n g g') {un : Nat} (h : cloT n f g un) : cloT n f' g' un := ⟨hf.one.mp h.1, fun j hj => clo_c hf hg hj (h.2 j hj)⟩
theorem bN_c (hf : agr n f f') (hg : agr n g g') {un : Nat} {uf uf' : Nat → Int} (hu : agr un uf uf') (hz : Sz n f σ 0) (h0 : σ 0 = n) {k : Nat} (hk : k < n) : bN f g un uf k = bN f' g' un uf' k := by
  have e1 : ∀ x, bIdx f g k x = bIdx f' g' k x := fun x => by
    unfold bIdx
    have ee := hf.env (k := k) (by omega)
    show fnd (env f k).length (fun i => g ((env f k).getD i 0)) x = fnd (env f' k).length (fun i => g' ((env f' k).getD i 0)) x
    rw [← ee]
    refine fnd_congr (fun i hi => ?_) x
    have hm : (env f k).getD i 0 ∈ env f k := by
      rw [List.getD_eq_getElem?_getD, List.getElem?_eq_getElem hi]; exact List.getElem_mem hi
    have := (env_bP hz h0 k k (Nat.le_refl _) hk _ hm).1
    exact hg _ (by omega)
  unfold bN
  rw [hf k hk, hg k hk, e1, fnd_congr hu]
theorem isUse_c (hf : agr n f f') (hg : agr n g g') {b j : Nat} (hb : b < n) (hj : j < n) : isUse f g b j ↔ isUse f' g' b j := by
  have e1 := hf.env (k := j) (by omega)
  have e2 := hf.env (k := b) (by omega)
  show (f j = 0 ∧ g j = (((env f j).length : Nat) : Int) - ((((env f b).length : Nat) : Int) + 1)) ↔ (f' j = 0 ∧ g' j = (((env f' j).length : Nat) : Int) - ((((env f' b).length : Nat) : Int) + 1))
  rw [hf j hj, hg j hj, e1, e2]
theorem uCnt_c (hf : agr n f f') (hg : agr n g g') {b lo : Nat} (hb : b < n) : ∀ m, lo + m ≤ n → uCnt f g b lo m = uCnt f' g' b lo m
  | 0, _ => rfl
  | m + 1, h => by
    rw [uCnt_succ, uCnt_succ, uCnt_c hf hg hb m (by omega)]
    have := isUse_c hf hg hb (show lo + m < n by omega)
    by_cases q : isUse f g b (lo + m)
    · rw [if_pos q, if_pos (this.mp q)]
    · rw [if_neg q, if_neg (fun z => q (this.mpr z))]
theorem seg_c (hf : agr n f f') (hg : agr n g g') {a : Nat} : ∀ m, a + m ≤ n → seg f g a m = seg f' g' a m
  | 0, _ => rfl
  | m + 1, h => by rw [seg_succ, seg_succ, seg_c hf hg m (by omega), hf (a + m) (by omega), hg (a + m) (by omega)]
theorem vN_c (hf : agr n f f') (hg : agr n g g') {v i : Nat} {d : Int} (hv : v < n) (hi : i < n) : vN f g v d i = vN f' g' v d i := by
  have e1 := hf.env (k := i) (by omega)
  have e2 := hf.env (k := v) (by omega)
  show (f i, if f i = 0 ∧ (((env f i).length : Nat) : Int) - (((env f v).length : Nat) : Int) ≤ g i then g i + d else g i) = (f' i, if f' i = 0 ∧ (((env f' i).length : Nat) : Int) - (((env f' v).length : Nat) : Int) ≤ g' i then g' i + d else g' i)
  rw [hf i hi, hg i hi, e1, e2]
theorem vL_c (hf : agr n f f') (hg : agr n g g') {v : Nat} {d : Int} (hv : v < n) : ∀ m, v + m ≤ n → vL f g v m d = vL f' g' v m d
  | 0, _ => rfl
  | m + 1, h => by rw [vL_succ, vL_succ, vL_c hf hg hv m (by omega), vN_c hf hg hv (show v + m < n by omega)]
theorem nL_c (hf : agr n f f') (hg : agr n g g') {b v vs j : Nat} (hb : b < n) (hv : v < n) (hvs : v + vs ≤ n) (hj : j < n) : nL f g b v vs j = nL f' g' b v vs j := by
  have e1 := hf.env (k := j) (by omega)
  have e2 := hf.env (k := b) (by omega)
  have d1 : dep f j = dep f' j := by show (env f j).length = (env f' j).length; rw [e1]
  have d2 : dep f b = dep f' b := by show (env f b).length = (env f' b).length; rw [e2]
  unfold nL
  rw [hf j hj, hg j hj, d1, d2, vL_c hf hg hv vs hvs]
theorem bL_c (hf : agr n f f') (hg : agr n g g') {b v vs lo : Nat} (hb : b < n) (hv : v < n) (hvs : v + vs ≤ n) : ∀ m, lo + m ≤ n → bL f g b v vs lo m = bL f' g' b v vs lo m
  | 0, _ => rfl
  | m + 1, h => by rw [bL_succ, bL_succ, bL_c hf hg hb hv hvs m (by omega), nL_c hf hg hb hv hvs (show lo + m < n by omega)]
theorem cbv_c (hf : agr n f f') {k b v : Nat} (hz : Sz n f σ 0) (h : cbv f σ n k b v) : cbv f' σ n k b v := by
  obtain ⟨h1, h2⟩ := h
  refine ⟨h1, ?_⟩
  rcases h2 with h2 | h2
  · exact Or.inl ⟨by rw [← hf k h1]; exact h2.1, h2.2⟩
  · have hp := ((hz k (Nat.zero_le _) h1).2.2.1 (by have := h2.1; omega)).1
    exact Or.inr ⟨by rw [← hf k h1]; exact h2.1, by rw [← hf (k + 1) hp]; exact h2.2.1, h2.2.2⟩
theorem cbv_u {k b v b' v' : Nat} (h : cbv f σ n k b v) (h' : cbv f σ n k b' v') : b = b' ∧ v = v' := by
  rcases h.2 with q | q <;> rcases h'.2 with q' | q'
  · exact ⟨by rw [q.2.1, q'.2.1], by rw [q.2.2, q'.2.2]⟩
  · have := q.1; have := q'.1; omega
  · have := q.1; have := q'.1; omega
  · exact ⟨by rw [q.2.2.1, q'.2.2.1], by rw [q.2.2.2, q'.2.2.2]⟩
/-- the binder, its last part and the value lie within the row -/
theorem cbv_in (hz : Sz n f σ 0) {k b v : Nat} (h : cbv f σ n k b v) : b < n ∧ bP (f b) ∧ v < n ∧ v + σ v ≤ n ∧ b + 1 + σ (b + 1) < n ∧ b + 1 + σ (b + 1) + σ (b + 1 + σ (b + 1)) ≤ n ∧ k + σ k ≤ n := by
  obtain ⟨h1, h2⟩ := h
  obtain ⟨s1, s2, s3, s4⟩ := hz k (Nat.zero_le _) h1
  rcases h2 with ⟨c1, c2, c3⟩ | ⟨c1, c2, c3, c4⟩
  · subst c2 c3
    obtain ⟨p1, p2, p3⟩ := s3 (by omega)
    have e1 := (hz _ (Nat.zero_le _) p1).2.1
    have e2 := (hz _ (Nat.zero_le _) p2).2.1
    exact ⟨h1, by omega, p1, e1, p2, e2, s2⟩
  · subst c3 c4
    obtain ⟨p1, p2, p3⟩ := s3 (by omega)
    obtain ⟨q1, q2, q3⟩ := (hz _ (Nat.zero_le _) p1).2.2.1 (by omega)
    have e1 := (hz _ (Nat.zero_le _) p2).2.1
    have e2 := (hz _ (Nat.zero_le _) q2).2.1
    exact ⟨p1, by omega, p2, e1, q2, e2, s2⟩
theorem cOut_c (hf : agr n f f') (hg : agr n g g') (hz : Sz n f σ 0) {k b v : Nat} (h : cbv f σ n k b v) : cOut f g σ n k b v = cOut f' g' σ n k b v := by
  obtain ⟨a1, a2, a3, a4, a5, a6, a7⟩ := cbv_in hz h
  unfold cOut
  rw [seg_c hf hg k (by omega), bL_c hf hg a1 a3 a4 _ a6, seg_c hf hg _ (show k + σ k + (n - (k + σ k)) ≤ n by omega)]
theorem bOf_c (hf : agr n f f') (hg : agr n g g') {j : Nat} (hj : j < n) : bOf f g j = bOf f' g' j := by
  unfold bOf
  rw [hf.env (by omega), hg j hj]
theorem wRf_c (hf : agr n f f') (hg : agr n g g') {un : Nat} {uf uf' : Nat → Int} (hu : agr un uf uf') (hz : Sz n f σ 0) (h0 : σ 0 = n) (hc : ∀ j, j < n → clo f g un j) {F Q : Nat → Int} {j : Nat} (hj : j < n) (h : wRf f g uf σ F Q j) : wRf f' g' uf' σ F Q j := by
  obtain ⟨a1, a2, a3, a4, a5, a6, a7, a8⟩ := h
  have hk := hf j hj
  have hgj := hg j hj
  obtain ⟨s1, s2, s3, s4⟩ := hz j (Nat.zero_le _) hj
  refine ⟨?_, fun q => ?_, fun q => ?_, fun q => ?_, fun q => ?_, a6, fun q1 q2 => ?_, a8⟩
  · rw [a1, ← hk]
    by_cases e2 : f j = 2
    · obtain ⟨p1, p2, p3⟩ := s3 (by omega)
      rw [uCnt_c hf hg hj _ (show j + 1 + σ (j + 1) + σ (j + 1 + σ (j + 1)) ≤ n by have := (hz _ (Nat.zero_le _) p2).2.1; omega)]
    · by_cases e7 : f j = 7
      · rw [if_pos e7, if_pos e7]
      · rw [if_neg e7, if_neg e7, if_neg (fun q => e2 q.1), if_neg (fun q => e2 q.1)]
  · have q' : f j = 7 := by rw [hk]; exact q
    rw [a2 q', ← hgj]
    exact hu _ (by have := (hc j hj).2 q'; omega)
  · rw [a3 (by rw [hk]; exact q), bOf_c hf hg hj]
  · rw [a4 (by rw [hk]; exact q), hgj]
  · exact a5 (by rw [hk]; exact q)
  · rw [← hgj]
    refine chP_c (a7 (by rw [hk]; exact q1) q2) (fun z => ?_)
    have one : ∀ i, i < j + σ j → (ctj f g uf Q j z i ↔ ctj f' g' uf' Q j z i) := fun i hi => by
      have hin : i < n := by omega
      unfold ctj
      rw [bOf_c hf hg hin, hf i hin, hg i hin]
      constructor
      · rintro (h | h)
        · have h7 := (hc i hin).2 (by rw [hf i hin]; exact h.1)
          rw [hg i hin] at h7
          exact Or.inl ⟨h.1, by rw [← hu _ (show (g' i).toNat < un by omega)]; exact h.2⟩
        · exact Or.inr h
      · rintro (h | h)
        · have h7 := (hc i hin).2 (by rw [hf i hin]; exact h.1)
          rw [hg i hin] at h7
          exact Or.inl ⟨h.1, by rw [hu _ (show (g' i).toNat < un by omega)]; exact h.2⟩
        · exact Or.inr h
    exact ⟨fun ⟨i, i1, i2, i3⟩ => ⟨i, i1, i2, (one i i2).mp i3⟩, fun ⟨i, i1, i2, i3⟩ => ⟨i, i1, i2, (one i i2).mpr i3⟩⟩
end AgS
