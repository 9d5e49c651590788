/-- entering node k: then what stands open is its environment -/
theorem ent {ς : ScT} {ρ : RowT} (hok : scOK ς) (h : scFor ς ρ) {σ : Nat → Nat} (hm : mea ρ σ) {k : Nat} (hk : k < rN ρ) (hI : ∀ e ∈ stk (rF ρ) k, mat (sO ς) e.tail) : mat (enO ς k) (env (rF ρ) k) ∧ (∀ e ∈ stk (rF ρ) (k + 1), mat (enO ς k) e.tail) ∧ ∀ j, gin (enO ς k j) := by
  have hd1 := h.d hk
  have hc := hok.1.2.1
  have hn := h.1
  have hle : dep (rF ρ) k ≤ k := env_le hm.1 hm.2.1 hk
  have hzi : zI ς (k : Int) = hd (env (rF ρ) k) := by
    rw [zI_t (by omega)]; exact (h.2 k hk).2
  have h1 : mat (enO ς k) (env (rF ρ) k) := by
    rcases env_hd hm.1 hm.2.1 hk with ⟨e1, -⟩ | ⟨b, e1, e2, -, -⟩
    · rw [e1]; exact mat_nil _
    · have ht := hI _ (env_mem hm.1 hm.2.1 hk)
      have hl : dep (rF ρ) k = (env (rF ρ) b).length + 1 := by show (env (rF ρ) k).length = _; rw [e1]; rfl
      have : enO ς k = uZ (sO ς) (env (rF ρ) b).length (b : Int) := by
        unfold enO
        rw [if_pos (by omega), hd1, hzi, e2]
        congr 1
        omega
      rw [this, e1]
      rw [e1] at ht
      exact mat_cons ht
  refine ⟨h1, fun e he => ?_, fun j => ?_⟩
  · have hsf := env_suf (rF ρ) k
    obtain ⟨r, hr⟩ := stk_at hm.1 hm.2.1 hk
    rw [hr, List.pairwise_cons] at hsf
    have ts := mat_suf h1 (List.tail_suffix _)
    by_cases hb : bP (rF ρ k)
    · rw [stk_b hr hb] at he
      rcases List.mem_cons.mp he with he | he
      · subst he; exact ts
      rcases List.mem_cons.mp he with he | he
      · subst he; exact h1
      · exact mat_suf h1 (hsf.1 e he)
    by_cases ha : rF ρ k = 4
    · rw [stk_a hr ha] at he
      rcases List.mem_cons.mp he with he | he
      · subst he; exact ts
      rcases List.mem_cons.mp he with he | he
      · subst he; exact ts
      · exact mat_suf h1 (hsf.1 e he)
    · rw [stk_l hr (by omega)] at he
      exact mat_suf h1 (hsf.1 e he)
  · unfold enO; split
    · exact uZ_gin hok.2.2.2 (zI_in hok _) j
    · exact hok.2.2.2 j
def bAll (f g : Nat → Int) (un : Nat) (uf : Nat → Int) (n : Nat) : List (Int × Int) := (List.range n).map (fun j => (bN f g un uf j).getD (0, 0))
theorem bAll_succ (f g : Nat → Int) (un : Nat) (uf : Nat → Int) (n : Nat) : bAll f g un uf (n + 1) = bAll f g un uf n ++ [(bN f g un uf n).getD (0, 0)] := by simp [bAll, List.range_succ]
theorem bAll_len (f g : Nat → Int) (un : Nat) (uf : Nat → Int) (n : Nat) : (bAll f g un uf n).length = n := by simp [bAll]
