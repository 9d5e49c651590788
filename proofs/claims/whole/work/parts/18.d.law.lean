-- the answers are the same
theorem nodeR_gil {ρ : RowT} (h : rowOK ρ) (k w : Int) : gil (nodeR ρ k w) := by
  obtain ⟨-, hf, hg, hh⟩ := h
  have a := hf k.toNat
  have b := hg k.toNat
  have c := hh k.toNat
  unfold nodeR
  repeat' split
  all_goals omega
theorem wrtR_gil {ρ : RowT} (h : rowOK ρ) (k w : Int) : gil (wrtR ρ k w) := by
  obtain ⟨-, hf, hg, hh⟩ := h
  have a := hf k.toNat
  have b := hg k.toNat
  unfold wrtR
  repeat' split
  all_goals omega
theorem node_eq {ρ : RowT} {n gn : Nat} {F Q : Nat → Int} (h : iT ρ n F Q gn) {σ : Nat → Nat} (hm : rN ρ = 0 ∨ mea ρ σ) (k w : Int) : nodeM n F Q σ k w = nodeR ρ k w := by
  obtain ⟨-, h1, h2, h3, -⟩ := h
  unfold nodeM nodeR
  by_cases hk : 0 ≤ k ∧ k < n
  · rw [if_pos hk, if_pos (show 0 ≤ k ∧ k < (rN ρ : Int) by omega), h2 k.toNat (by omega), h3 k.toNat (by omega)]
    have hs : rH ρ k.toNat = (σ k.toNat : Int) := by
      rcases hm with hm | hm
      · omega
      · exact hm.2.2.2 _ (by omega)
    rw [hs]
  · rw [if_neg hk, if_neg (show ¬ (0 ≤ k ∧ k < (rN ρ : Int)) by omega)]
theorem wrt_eq {ρ : RowT} {n : Nat} {F Q : Nat → Int} (h : iL ρ n F Q) (k w : Int) : wrtM n F Q k w = wrtR ρ k w := by
  obtain ⟨-, h1, h2, h3, -⟩ := h
  unfold wrtM wrtR
  by_cases hk : 0 ≤ k ∧ k < n
  · rw [if_pos hk, if_pos (show 0 ≤ k ∧ k < (rN ρ : Int) by omega), h2 k.toNat (by omega), h3 k.toNat (by omega)]
  · rw [if_neg hk, if_neg (show ¬ (0 ≤ k ∧ k < (rN ρ : Int)) by omega)]
theorem uses_eq {ρ : RowT} {n gn : Nat} {F Q : Nat → Int} (h : iT ρ n F Q gn) {σ : Nat → Nat} (ho : n = 0 ∨ oneS n F σ) (k : Int) : usesM n F Q σ k = usesR ρ σ k ∧ -1 ≤ usesR ρ σ k ∧ usesR ρ σ k ≤ 3000 := by
  obtain ⟨-, h1, h2, h3, -⟩ := h
  by_cases hk : 0 ≤ k ∧ k < n ∧ bP (F k.toNat)
  · obtain ⟨k1, k2, k3⟩ := hk
    have hO : oneS n F σ := by
      rcases ho with ho | ho
      · omega
      · exact ho
    obtain ⟨z1, z2, z3⟩ := hO.pt (show k.toNat < n by omega) (by omega)
    have y2 := (hO.en z2).2
    have hn := hO.2.2.2.1
    have e1 : usesM n F Q σ k = ((uCnt F Q k.toNat (k.toNat + 1 + σ (k.toNat + 1)) (σ (k.toNat + 1 + σ (k.toNat + 1))) : Nat) : Int) := if_pos ⟨k1, k2, k3⟩
    have e2 : usesR ρ σ k = ((uCnt (rF ρ) (rG ρ) k.toNat (k.toNat + 1 + σ (k.toNat + 1)) (σ (k.toNat + 1 + σ (k.toNat + 1))) : Nat) : Int) := if_pos ⟨k1, by omega, by rw [h2 _ (by omega)]; exact k3⟩
    have e3 := uCnt_c h2 h3 (show k.toNat < n by omega) _ y2
    have e4 := uCnt_le (rF ρ) (rG ρ) k.toNat (k.toNat + 1 + σ (k.toNat + 1)) (σ (k.toNat + 1 + σ (k.toNat + 1)))
    rw [e1, e2, e3]
    exact ⟨rfl, by omega, by omega⟩
  · have e1 : usesM n F Q σ k = -1 := if_neg hk
    have e2 : usesR ρ σ k = -1 := if_neg (fun q => hk ⟨q.1, by have := q.2.1; omega, by rw [← h2 _ (by have := q.1; have := q.2.1; omega)]; exact q.2.2⟩)
    rw [e1, e2]
    exact ⟨rfl, by decide, by decide⟩
theorem same_iff {ρ κ : RowT} {n m gn : Nat} {F Q F' Q' : Nat → Int} (h : iT ρ n F Q gn) (hk : iK κ m F' Q') : sameR ρ κ ↔ sameM n m F Q F' Q' := by
  obtain ⟨-, h1, h2, h3, -⟩ := h
  obtain ⟨-, k1, k2, k3, -⟩ := hk
  unfold sameR sameM
  rw [h1, k1]
  constructor
  · rintro ⟨a, b⟩
    refine ⟨a, fun j hj => ?_⟩
    have := b j hj
    rw [h2 j hj, h3 j hj, k2 j (by omega), k3 j (by omega)] at this
    exact this
  · rintro ⟨a, b⟩
    refine ⟨a, fun j hj => ?_⟩
    rw [h2 j hj, h3 j hj, k2 j (by omega), k3 j (by omega)]
    exact b j hj
theorem iL.re {ρ ρ' : RowT} {n : Nat} {F Q : Nat → Int} (h : iL ρ n F Q) (hk : rowOK ρ') (h1 : rN ρ' = rN ρ) (h2 : rF ρ' = rF ρ) (h3 : rG ρ' = rG ρ) : iL ρ' n F Q := by
  obtain ⟨-, a1, a2, a3, a4⟩ := h
  exact ⟨hk, by rw [h1]; exact a1, by rw [h2]; exact a2, by rw [h3]; exact a3, a4⟩
theorem iL.cp {ρ ρ' : RowT} {n : Nat} {F Q F' Q' : Nat → Int} (h : iL ρ n F Q) (hk : rowOK ρ') (hL : rL ρ' = rL ρ) (hc : ∀ j, j < n → F' j = F j ∧ Q' j = Q j) : iL ρ' n F' Q' := by
  obtain ⟨-, a1, a2, a3, a4⟩ := h
  obtain ⟨b1, b2, b3⟩ := cp_agr a1 a2 a3 hL hc
  exact ⟨hk, b1, b2, b3, LI_c (fun j hj => ((hc j hj).1).symm) (fun j hj => ((hc j hj).2).symm) a4⟩
theorem iK.cp {ρ ρ' : RowT} {n gn : Nat} {F Q F' Q' : Nat → Int} (h : iT ρ n F Q gn) (hk : rowOK ρ') (hL : rL ρ' = rL ρ) (hc : ∀ j, j < n → F' j = F j ∧ Q' j = Q j) : iK ρ' n F' Q' := by
  obtain ⟨σ, -, -, -, q1, q2, -⟩ := h.sig
  obtain ⟨-, a1, a2, a3, -⟩ := h
  obtain ⟨b1, b2, b3⟩ := cp_agr a1 a2 a3 hL hc
  refine ⟨hk, b1, b2, b3, fun j hj => ?_⟩
  rw [(hc j hj).1, (hc j hj).2]
  have := q1 j hj
  have := q2 j hj
  omega
/-- binding is the same on both sides -/
theorem bind_eq {ρ : RowT} {n : Nat} {F Q : Nat → Int} (h : iL ρ n F Q) {γ : GlT} {gn : Nat} {G : Nat → Int} (hg : iG γ gn G) (hO : OneT n F) : ∀ j, j < n → bN (rF ρ) (rG ρ) (uN γ) (uF γ) j = bN F Q gn G j := by
  obtain ⟨-, h1, h2, h3, -⟩ := h
  obtain ⟨-, g1, g2, -⟩ := hg
  obtain ⟨h0, σ, hz, hs⟩ := hO
  intro j hj
  rw [g1]
  exact bN_c h2 h3 g2 (h2.sym.sz hz) hs hj
theorem bind_iT {ρ ρ0 ρ' : RowT} {n gn : Nat} {F Q G : Nat → Int} {γ : GlT} (h : iL ρ n F Q) (hg : iG γ gn G) (hO : OneT n F) {K B : Nat → Int} (hb : ∀ j, j < n → bN F Q gn G j = some (K j, B j)) (hk : rowOK ρ') (hL : rL ρ0 = bAll (rF ρ) (rG ρ) (uN γ) (uF γ) (rN ρ)) (hn : newT ρ' ρ0) : iT ρ' n K B gn := by
  have hbe := bind_eq h hg hO
  obtain ⟨h0, h1, h2, h3, h4⟩ := h
  have hT := bind_TI h4 hO (by have := h0.1.1; omega) (by have := hg.1.1; have := hg.2.1; omega) hb
  have e : rL ρ0 = Lr n K B := by
    rw [hL, h1]
    unfold bAll Lr
    apply List.map_congr_left
    intro j hj
    have := List.mem_range.mp hj
    rw [hbe j this, hb j this]; rfl
  obtain ⟨e1, e2, e3⟩ := Lr_agr e
  obtain ⟨n1, n2, n3, n4, n5⟩ := hn
  rw [e1] at e2 e3
  refine ⟨hk, by omega, by rw [n3]; exact e2, by rw [n4]; exact e3, Or.inr ⟨hT, n5 ?_⟩⟩
  rw [e1]
  exact e2.one.mpr hT.1.1
/-- contraction is the same on both sides -/
theorem cont_out {n gn : Nat} {F Q : Nat → Int} {σ : Nat → Nat} (ho : n = 0 ∨ oneS n F σ) (hT : n = 0 ∨ TI n F Q gn) : ∀ (i b v : Nat) (D P : Nat → Int), cbv F σ n i b v → (cOut F Q σ n i b v).length ≤ 3000 → Lr (cOut F Q σ n i b v).length D P = cOut F Q σ n i b v → ∃ τ, oneS (cOut F Q σ n i b v).length D τ := by
  intro i b v D P hc hl hL
  have hi := hc.1
  have hO : oneS n F σ := by
    rcases ho with ho | ho
    · omega
    · exact ho
  have hT : TI n F Q gn := by
    rcases hT with hT | hT
    · omega
    · exact hT
  have hT2 := cont_TI hO.1 hO.2.1 hT hc hl hL
  obtain ⟨m0, τ, mz, ms⟩ := id hT2.1.1
  exact ⟨τ, mz, ms, m0, hl, fun j hj => by have := hT2.2.1 j hj; omega⟩
theorem cont_iT {ρ ρ0 ρ' : RowT} {n gn : Nat} {F Q : Nat → Int} {σ : Nat → Nat} (h : iT ρ n F Q gn) (ho : n = 0 ∨ oneS n F σ) (hT : n = 0 ∨ TI n F Q gn) {i b v b' v' : Nat} (hc : cbv F σ n i b v) (hc' : cbv (rF ρ) σ (rN ρ) i b' v') (hl : (cOut F Q σ n i b v).length ≤ 3000) {K B : Nat → Int} (hK : Lr (cOut F Q σ n i b v).length K B = cOut F Q σ n i b v) (hk : rowOK ρ') (hL : rL ρ0 = cOut (rF ρ) (rG ρ) σ (rN ρ) i b' v') (hn : newT ρ' ρ0) : rN ρ' = (cOut F Q σ n i b v).length ∧ iT ρ' (cOut F Q σ n i b v).length K B gn := by
  have hi := hc.1
  have hO : oneS n F σ := by
    rcases ho with ho | ho
    · omega
    · exact ho
  have hT : TI n F Q gn := by
    rcases hT with hT | hT
    · omega
    · exact hT
  obtain ⟨h0, h1, h2, h3, -⟩ := h
  rw [h1] at hc' hL
  have hc2 := cbv_c h2.sym hO.1 hc
  obtain ⟨eb, ev⟩ := cbv_u hc2 hc'
  subst eb ev
  rw [cOut_c h2 h3 (h2.sym.sz hO.1) hc', ← hK] at hL
  have hT2 := cont_TI hO.1 hO.2.1 hT hc hl hK
  obtain ⟨e1, e2, e3⟩ := Lr_agr hL
  obtain ⟨n1, n2, n3, n4, n5⟩ := hn
  rw [e1] at e2 e3
  refine ⟨by omega, hk, by omega, by rw [n3]; exact e2, by rw [n4]; exact e3, Or.inr ⟨hT2, n5 ?_⟩⟩
  rw [e1]
  exact e2.one.mpr hT2.1.1
theorem cont_len {ρ : RowT} {n gn : Nat} {F Q : Nat → Int} {σ : Nat → Nat} (h : iT ρ n F Q gn) (ho : n = 0 ∨ oneS n F σ) {i b v b' v' : Nat} (hc : cbv F σ n i b v) (hc' : cbv (rF ρ) σ (rN ρ) i b' v') : (cOut (rF ρ) (rG ρ) σ (rN ρ) i b' v').length = (cOut F Q σ n i b v).length := by
  have hi := hc.1
  have hO : oneS n F σ := by
    rcases ho with ho | ho
    · omega
    · exact ho
  obtain ⟨h0, h1, h2, h3, -⟩ := h
  rw [h1] at hc' ⊢
  have hc2 := cbv_c h2.sym hO.1 hc
  obtain ⟨eb, ev⟩ := cbv_u hc2 hc'
  subst eb ev
  rw [cOut_c h2 h3 (h2.sym.sz hO.1) hc']
theorem cont_cb {ρ : RowT} {n gn : Nat} {F Q : Nat → Int} {σ : Nat → Nat} (h : iT ρ n F Q gn) (ho : n = 0 ∨ oneS n F σ) {i b v : Nat} : (cbv F σ n i b v → cbv (rF ρ) σ (rN ρ) i b v ∧ cbl ρ (i : Int) ≠ -1) ∧ (cbv (rF ρ) σ (rN ρ) i b v → cbv F σ n i b v) := by
  obtain ⟨h0, h1, h2, h3, -⟩ := h
  refine ⟨fun hc => ?_, fun hc => ?_⟩
  · have hi := hc.1
    have hO : oneS n F σ := by
      rcases ho with ho | ho
      · omega
      · exact ho
    have hc2 := cbv_c h2.sym hO.1 hc
    refine ⟨by rw [h1]; exact hc2, fun q => ?_⟩
    unfold cbl at q
    rw [if_pos (by omega), Int.toNat_natCast] at q
    rcases hc2.2 with hq | hq
    · rw [if_pos hq.1] at q; omega
    · have hp := (hO.pt hi (by have := hc.2; omega)).1
      have e1 : rK ρ ((i : Int) + 1) = rF ρ (i + 1) := by rw [rK_t (by omega)]; congr 1
      rw [if_neg (by have := hq.1; omega), if_pos ⟨hq.1, by rw [e1]; exact hq.2.1⟩] at q
      omega
  · have hi := hc.1
    have hO : oneS n F σ := by
      rcases ho with ho | ho
      · omega
      · exact ho
    rw [h1] at hc
    exact cbv_c h2 (h2.sym.sz hO.1) hc
/-- writing is the same on both sides -/
theorem write_iL {ρ ρ' : RowT} {n gn : Nat} {F Q G : Nat → Int} {γ : GlT} {σ : Nat → Nat} (h : iT ρ n F Q gn) (hg : iG γ gn G) (ho : n = 0 ∨ oneS n F σ) (hT : n = 0 ∨ TI n F Q gn) (hn0 : 0 < n) (hk : rowOK ρ') (hn : rN ρ' = rN ρ) (h1 : ∀ j, j < rN ρ → wOK (rF ρ) (rG ρ) σ (rN ρ) (uN γ) (uF γ) (rN ρ) (rF ρ') (rG ρ') j) {F' Q' : Nat → Int} (h2 : ∀ j, j < n → wRf F Q G σ F' Q' j) : iL ρ' n F' Q' := by
  have hO : oneS n F σ := by
    rcases ho with ho | ho
    · omega
    · exact ho
  have hT : TI n F Q gn := by
    rcases hT with hT | hT
    · omega
    · exact hT
  obtain ⟨-, a1, a2, a3, -⟩ := h
  obtain ⟨g0, g1, g2, g3⟩ := hg
  obtain ⟨hz, h0, -, hn3, -⟩ := id hO
  have hun : gn ≤ 200 := by have := g0.1; omega
  have hC := TI_c a2.sym a3.sym hT
  rw [a1, g1] at h1
  have h3 : ∀ j, j < n → wRf (rF ρ) (rG ρ) (uF γ) σ F' Q' j := fun j hj => wRf_c a2.sym a3.sym g2.sym hz h0 hT.1.2 hj (h2 j hj)
  have key := wr_same (a2.sym.sz hz) h0 hn3 hun hC.1.2 hC.2.1 (fun j hj => (hC.2.2 j hj).2.1) (fun j hj => (hC.2.2 j hj).1.1) (fun i hi => by rw [g2 i hi]; have := g3 i hi; omega) h1 h3
  exact ⟨hk, by omega, fun j hj => (key j j (Nat.le_refl _) hj).1, fun j hj => (key j j (Nat.le_refl _) hj).2, wr_LI hz h0 hn3 hun hT g3 h2⟩
