-- the reference's trees
theorem par_top {n : Nat} {f : Nat → Int} {σ : Nat → Nat} {W : Nat → Int} (hz : Sz n f σ 0) (h0 : σ 0 = n) (hW : parO n f σ W) {t j : Nat} (ht : t < n) (h1 : t < j) (h2 : j < t + σ t) : ∃ p : Nat, W j = (p : Int) ∧ t ≤ p ∧ p < j ∧ j < n ∧ pP (f p) ∧ p + 1 < n ∧ p + 1 + σ (p + 1) < n ∧ ((j = p + 1 ∧ j ≠ p + 1 + σ (p + 1) ∧ env f j = env f p) ∨ (j = p + 1 + σ (p + 1) ∧ env f j = lastE f p (env f p))) := by
  obtain ⟨p, q0, q1, q2, q3⟩ := par_in hz _ t rfl ht j h1 h2
  obtain ⟨-, t2, -, -⟩ := hz t (Nat.zero_le _) ht
  obtain ⟨a1, a2, a3, a4⟩ := hz p (Nat.zero_le _) (by omega)
  obtain ⟨c1, c2, c3⟩ := a3 q2
  obtain ⟨s1, -⟩ := hz (p + 1) (Nat.zero_le _) c1
  obtain ⟨w1, w2⟩ := hW.2 p (by omega) q2
  rcases q3 with q3 | q3
  · subst q3
    exact ⟨p, w1, q0, q1, by omega, q2, c1, c2, Or.inl ⟨rfl, by omega, env_1 hz h0 (by omega) q2⟩⟩
  · subst q3
    exact ⟨p, w2, q0, q1, by omega, q2, c1, c2, Or.inr ⟨rfl, env_2 hz h0 (by omega) q2⟩⟩
theorem env_len1 {f : Nat → Int} {p j : Nat} {a b : Prop} (h : (a ∧ b ∧ env f j = env f p) ∨ (j = j ∧ env f j = lastE f p (env f p))) (hn : ¬ bP (f p)) : (env f j).length = (env f p).length := by
  rcases h with h | h
  · rw [h.2.2]
  · rw [h.2]; unfold lastE; rw [if_neg hn]
theorem Sz_pP {n : Nat} {f g : Nat → Int} {σ : Nat → Nat} {m : Nat} (h : ∀ j, j < n → (pP (f j) ↔ pP (g j))) (hz : Sz n f σ m) : Sz n g σ m := by
  intro j h1 h2
  obtain ⟨a1, a2, a3, a4⟩ := hz j h1 h2
  exact ⟨a1, a2, fun q => a3 ((h j h2).mpr q), fun q => a4 (fun z => q ((h j h2).mp z))⟩
def wrtM (n : Nat) (F G : Nat → Int) (k w : Int) : Int := if 0 ≤ k ∧ k < n then (if w = 0 then F k.toNat else if w = 1 then G k.toNat else -1) else -1
def nodeM (n : Nat) (F G : Nat → Int) (σ : Nat → Nat) (k w : Int) : Int := if 0 ≤ k ∧ k < n then (if w = 0 then F k.toNat else if w = 1 then G k.toNat else if w = 2 then (σ k.toNat : Int) else -1) else -1
def sameM (n m : Nat) (F G F' G' : Nat → Int) : Prop := n = m ∧ ∀ j, j < n → F j = F' j ∧ (bP (F j) ∨ G j = G' j)
def usesM (n : Nat) (F G : Nat → Int) (σ : Nat → Nat) (k : Int) : Int := if 0 ≤ k ∧ k < n ∧ bP (F k.toNat) then uCnt F G k.toNat (k.toNat + 1 + σ (k.toNat + 1)) (σ (k.toNat + 1 + σ (k.toNat + 1))) else -1
/-- a measured term of the reference -/
def meaM (n : Nat) (f : Nat → Int) (σ : Nat → Nat) (S W : Nat → Int) : Prop := (∀ j, j < n → S j = (σ j : Int)) ∧ parO n f σ W
/-- one term, with its sizes -/
def oneS (n : Nat) (f : Nat → Int) (σ : Nat → Nat) : Prop := Sz n f σ 0 ∧ σ 0 = n ∧ 0 < n ∧ n ≤ 3000 ∧ ∀ j, j < n → 0 ≤ f j ∧ f j ≤ 7
theorem oneS.en {n : Nat} {f : Nat → Int} {σ : Nat → Nat} (h : oneS n f σ) {k : Nat} (hk : k < n) : 1 ≤ σ k ∧ k + σ k ≤ n := ⟨(h.1 k (Nat.zero_le _) hk).1, (h.1 k (Nat.zero_le _) hk).2.1⟩
theorem oneS.pt {n : Nat} {f : Nat → Int} {σ : Nat → Nat} (h : oneS n f σ) {k : Nat} (hk : k < n) (hp : pP (f k)) : k + 1 < n ∧ k + 1 + σ (k + 1) < n ∧ σ k = 1 + σ (k + 1) + σ (k + 1 + σ (k + 1)) := (h.1 k (Nat.zero_le _) hk).2.2.1 hp
theorem dep_2 {n : Nat} {f : Nat → Int} {σ : Nat → Nat} (hz : Sz n f σ 0) (h0 : σ 0 = n) {k : Nat} (hk : k < n) (hb : bP (f k)) : (env f (k + 1 + σ (k + 1))).length = (env f k).length + 1 := by
  rw [env_2 hz h0 hk (by omega)]; unfold lastE; rw [if_pos hb]; rfl
theorem f4_sh {z : Int} (h0 : 0 ≤ z) (hz : gil z) {N : Nat} (hN : lenF 8 (z % 18446744073709551616) = N) (h4 : 4 < N) : ((lI z).toUInt64 >>> ((iI (8 * ((N : Int) - 4))).toInt64.toUInt64 &&& Int64.toUInt64 63)).toInt64 = lI (f4 z) := by
  have hc := lenF_cases (u := z % 18446744073709551616) (by omega) (by omega)
  have hz1 : z % 18446744073709551616 = z := by omega
  have h := lI_ush z (k := 8 * (N - 4)) (by omega)
  rw [show (8 * ((N : Int) - 4)) = ((8 * (N - 4) : Nat) : Int) by omega, h, pwB_2, hz1]
  rw [hz1] at hN hc
  congr 1
  have hN5 : N = 5 ∨ N = 6 ∨ N = 7 ∨ N = 8 := by omega
  unfold f4
  rcases hN5 with e | e | e | e
  · subst e
    rw [if_neg (by omega), if_pos (by omega)]; rfl
  · subst e
    rw [if_neg (by omega), if_neg (by omega), if_pos (by omega)]; rfl
  · subst e
    rw [if_neg (by omega), if_neg (by omega), if_neg (by omega), if_pos (by omega)]; rfl
  · subst e
    rw [if_neg (by omega), if_neg (by omega), if_neg (by omega), if_neg (by omega)]; rfl
