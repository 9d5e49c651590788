-- the reference: its object, its arrays (A: their addresses)
abbrev mdO (m : Nat) (A : Nat → Nat) (gn ln n kn sn dn : Nat) (mt mg : Int) : va_W := [(m, .inr (5, [.ref (A 0), .int (iI (gn : Int)), .ref (A 1), .ref (A 2), .int (iI (ln : Int)), .ref (A 3), .ref (A 4), .int (iI (n : Int)), .ref (A 5), .ref (A 6), .int (iI (kn : Int)), .ref (A 7), .ref (A 8), .int (iI (sn : Int)), .ref (A 9), .ref (A 10), .int (iI (dn : Int)), .ref (A 11), .ref (A 12), .ref (A 13), .int (iI mt), .long (lI mg)]))]
abbrev mG (E : gE) (A : Nat → Nat) (f : Nat → Int) : va_W := [(A 0, aL E 200 f)]
abbrev mI (E : gE) (A : Nat → Nat) (i : Nat) (f : Nat → Int) : va_W := [(A i, aI E 3000 f)]
abbrev mL (E : gE) (A : Nat → Nat) (i : Nat) (f : Nat → Int) : va_W := [(A i, aL E 3000 f)]
section GN
variable {X : gC} {cc : ByteArray} {own : String} {l : Launch} {E : gE} {rm : Room} {nL : Nat} {ws : va_W} {cells slots pc : Nat} {lv : List (Nat × Value)} {st : List Value}
theorem g_iadN (hX : gOK X cc own l E rm nL) {a n k : Nat} {f : Nat → Int} (q0 : Nat) (he : ws[q0]? = some (a, aI E n f)) (hin : k < n ∧ k < 2147483648) (hdg : decode cc pc = .ok (.iaload, 1)) (kk : gW X ws cells slots (pc + 1) lv (.int (iI (f k)) :: st)) : gW X ws cells slots pc lv (.int (iI (k : Int)) :: .ref a :: st) := g_iald hX q0 he (by omega) hdg kk
theorem g_ladN (hX : gOK X cc own l E rm nL) {a n k : Nat} {f : Nat → Int} (q0 : Nat) (he : ws[q0]? = some (a, aL E n f)) (hin : k < n ∧ k < 2147483648) (hdg : decode cc pc = .ok (.laload, 1)) (kk : gW X ws cells slots (pc + 1) lv (.long (lI (f k)) :: st)) : gW X ws cells slots pc lv (.int (iI (k : Int)) :: .ref a :: st) := g_lald hX q0 he (by omega) hdg kk
theorem g_iasN (hX : gOK X cc own l E rm nL) {a n k : Nat} {f : Nat → Int} {x : Int} (q0 : Nat) (he : ws[q0]? = some (a, aI E n f)) (hin : k < n ∧ k < 2147483648) (hdg : decode cc pc = .ok (.iastore, 1)) (kk : gW X (ws.set q0 (a, aI E n (uZ f k x))) cells slots (pc + 1) lv st) : gW X ws cells slots pc lv (.int (iI x) :: .int (iI (k : Int)) :: .ref a :: st) := g_iast hX q0 he (by omega) hdg kk
theorem g_lasN (hX : gOK X cc own l E rm nL) {a n k : Nat} {f : Nat → Int} {x : Int} (q0 : Nat) (he : ws[q0]? = some (a, aL E n f)) (hin : k < n ∧ k < 2147483648) (hdg : decode cc pc = .ok (.lastore, 1)) (kk : gW X (ws.set q0 (a, aL E n (uZ f k x))) cells slots (pc + 1) lv st) : gW X ws cells slots pc lv (.long (lI x) :: .int (iI (k : Int)) :: .ref a :: st) := g_last hX q0 he (by omega) hdg kk
end GN
-- how many bytes a name has
def pwB : Nat → Int
  | 0 => 1
  | k + 1 => 256 * pwB k
theorem pwB_s (k : Nat) : pwB (k + 1) = 256 * pwB k := rfl
theorem pwB_2 : ∀ k : Nat, ((2 ^ (8 * k) : Nat) : Int) = pwB k
  | 0 => rfl
  | k + 1 => by
    rw [show 8 * (k + 1) = 8 * k + 8 by omega, Nat.pow_add, Int.natCast_mul, pwB_2 k, pwB_s]
    show pwB k * 256 = _
    omega
def lenF : Nat → Int → Int
  | 0, _ => 0
  | k + 1, u => if u = 0 then 0 else 1 + lenF k (u / 256)
theorem lenF_0 : ∀ k, lenF k 0 = 0
  | 0 => rfl
  | k + 1 => by unfold lenF; rw [if_pos rfl]
theorem lenF_s {k : Nat} {u : Int} (h : u ≠ 0) : lenF (k + 1) u = 1 + lenF k (u / 256) := by
  show (if u = 0 then 0 else 1 + lenF k (u / 256)) = _
  rw [if_neg h]
theorem lenF_z {k : Nat} {u : Int} (h : u = 0) : lenF k u = 0 := by rw [h]; exact lenF_0 k
theorem lenF_cases {u : Int} (h0 : 0 ≤ u) (h1 : u < 18446744073709551616) : (u = 0 ∧ lenF 8 u = 0) ∨ (1 ≤ u ∧ u < 256 ∧ lenF 8 u = 1) ∨ (256 ≤ u ∧ u < 65536 ∧ lenF 8 u = 2) ∨ (65536 ≤ u ∧ u < 16777216 ∧ lenF 8 u = 3) ∨ (16777216 ≤ u ∧ u < 4294967296 ∧ lenF 8 u = 4) ∨ (4294967296 ≤ u ∧ u < 1099511627776 ∧ lenF 8 u = 5) ∨ (1099511627776 ≤ u ∧ u < 281474976710656 ∧ lenF 8 u = 6) ∨ (281474976710656 ≤ u ∧ u < 72057594037927936 ∧ lenF 8 u = 7) ∨ (72057594037927936 ≤ u ∧ lenF 8 u = 8) := by
  by_cases e0 : u = 0
  · exact Or.inl ⟨e0, lenF_z e0⟩
  have f0 : lenF 8 (u) = 1 + lenF 7 (u / 256) := lenF_s e0
  by_cases e1 : u / 256 = 0
  · have g : lenF 7 (u / 256) = 0 := lenF_z e1
    have L : lenF 8 u = 1 := by rw [f0, g]; rfl
    exact Or.inr (Or.inl ⟨by clear g L f0; omega, by clear g L f0; omega, L⟩)
  have f1 : lenF 7 (u / 256) = 1 + lenF 6 (u / 256 / 256) := lenF_s e1
  by_cases e2 : u / 256 / 256 = 0
  · have g : lenF 6 (u / 256 / 256) = 0 := lenF_z e2
    have L : lenF 8 u = 2 := by rw [f0, f1, g]; rfl
    exact Or.inr (Or.inr (Or.inl ⟨by clear g L f0 f1; omega, by clear g L f0 f1; omega, L⟩))
  have f2 : lenF 6 (u / 256 / 256) = 1 + lenF 5 (u / 256 / 256 / 256) := lenF_s e2
  by_cases e3 : u / 256 / 256 / 256 = 0
  · have g : lenF 5 (u / 256 / 256 / 256) = 0 := lenF_z e3
    have L : lenF 8 u = 3 := by rw [f0, f1, f2, g]; rfl
    exact Or.inr (Or.inr (Or.inr (Or.inl ⟨by clear g L f0 f1 f2; omega, by clear g L f0 f1 f2; omega, L⟩)))
  have f3 : lenF 5 (u / 256 / 256 / 256) = 1 + lenF 4 (u / 256 / 256 / 256 / 256) := lenF_s e3
  by_cases e4 : u / 256 / 256 / 256 / 256 = 0
  · have g : lenF 4 (u / 256 / 256 / 256 / 256) = 0 := lenF_z e4
    have L : lenF 8 u = 4 := by rw [f0, f1, f2, f3, g]; rfl
    exact Or.inr (Or.inr (Or.inr (Or.inr (Or.inl ⟨by clear g L f0 f1 f2 f3; omega, by clear g L f0 f1 f2 f3; omega, L⟩))))
  have f4 : lenF 4 (u / 256 / 256 / 256 / 256) = 1 + lenF 3 (u / 256 / 256 / 256 / 256 / 256) := lenF_s e4
  by_cases e5 : u / 256 / 256 / 256 / 256 / 256 = 0
  · have g : lenF 3 (u / 256 / 256 / 256 / 256 / 256) = 0 := lenF_z e5
    have L : lenF 8 u = 5 := by rw [f0, f1, f2, f3, f4, g]; rfl
    exact Or.inr (Or.inr (Or.inr (Or.inr (Or.inr (Or.inl ⟨by clear g L f0 f1 f2 f3 f4; omega, by clear g L f0 f1 f2 f3 f4; omega, L⟩)))))
  have f5 : lenF 3 (u / 256 / 256 / 256 / 256 / 256) = 1 + lenF 2 (u / 256 / 256 / 256 / 256 / 256 / 256) := lenF_s e5
  by_cases e6 : u / 256 / 256 / 256 / 256 / 256 / 256 = 0
  · have g : lenF 2 (u / 256 / 256 / 256 / 256 / 256 / 256) = 0 := lenF_z e6
    have L : lenF 8 u = 6 := by rw [f0, f1, f2, f3, f4, f5, g]; rfl
    exact Or.inr (Or.inr (Or.inr (Or.inr (Or.inr (Or.inr (Or.inl ⟨by clear g L f0 f1 f2 f3 f4 f5; omega, by clear g L f0 f1 f2 f3 f4 f5; omega, L⟩))))))
  have f6 : lenF 2 (u / 256 / 256 / 256 / 256 / 256 / 256) = 1 + lenF 1 (u / 256 / 256 / 256 / 256 / 256 / 256 / 256) := lenF_s e6
  by_cases e7 : u / 256 / 256 / 256 / 256 / 256 / 256 / 256 = 0
  · have g : lenF 1 (u / 256 / 256 / 256 / 256 / 256 / 256 / 256) = 0 := lenF_z e7
    have L : lenF 8 u = 7 := by rw [f0, f1, f2, f3, f4, f5, f6, g]; rfl
    exact Or.inr (Or.inr (Or.inr (Or.inr (Or.inr (Or.inr (Or.inr (Or.inl ⟨by clear g L f0 f1 f2 f3 f4 f5 f6; omega, by clear g L f0 f1 f2 f3 f4 f5 f6; omega, L⟩)))))))
  have f7 : lenF 1 (u / 256 / 256 / 256 / 256 / 256 / 256 / 256) = 1 + lenF 0 (u / 256 / 256 / 256 / 256 / 256 / 256 / 256 / 256) := lenF_s e7
  have g : lenF 0 (u / 256 / 256 / 256 / 256 / 256 / 256 / 256 / 256) = 0 := rfl
  have L : lenF 8 u = 8 := by rw [f0, f1, f2, f3, f4, f5, f6, f7, g]; rfl
  exact Or.inr (Or.inr (Or.inr (Or.inr (Or.inr (Or.inr (Or.inr (Or.inr ⟨by clear g L f0 f1 f2 f3 f4 f5 f6 f7; omega, L⟩)))))))
theorem lI_shN (z : Int) {N k : Nat} (hk : k < N) (hN : N ≤ 8) : ((lI z).toUInt64 >>> ((iI (8 * ((N : Int) - 1 - (k : Int)))).toInt64.toUInt64 &&& Int64.toUInt64 63)).toInt64 = lI ((z % 18446744073709551616) / pwB (N - 1 - k)) := by
  have h := lI_ush z (k := 8 * (N - 1 - k)) (by omega)
  rw [pwB_2] at h
  rw [show (8 * ((N : Int) - 1 - (k : Int))) = ((8 * (N - 1 - k) : Nat) : Int) by omega]
  exact h
/-- byte c is one that a name may have at place j -/
def okAt (c : Int) (j : Nat) : Prop := (97 ≤ c ∧ c ≤ 122) ∨ (0 < j ∧ 48 ≤ c ∧ c ≤ 57)
theorem okN {z : Int} {N : Nat} (hz : gil z) (hN : lenF 8 (z % 18446744073709551616) = N) (h1 : 1 ≤ N) (h4 : N ≤ 4) : okName z ↔ ∀ j, j < N → okAt ((z % 18446744073709551616) / pwB (N - 1 - j) % 256) j := by
  have hc := lenF_cases (u := z % 18446744073709551616) (by omega) (by omega)
  have hz1 : z % 18446744073709551616 = z := by omega
  rw [hz1] at hc hN ⊢
  unfold okName
  simp only [cbg, bOK]
  have hN4 : N = 1 ∨ N = 2 ∨ N = 3 ∨ N = 4 := by omega
  rcases hN4 with e | e | e | e
  · subst e
    have q : (∀ j, j < 1 → okAt (z / pwB (1 - 1 - j) % 256) j) ↔ okAt (z / 1 % 256) 0 := ⟨fun h => h 0 (by omega), fun h j hj => by
      have : j = 0 := by omega
      subst this; exact h⟩
    rw [q]; unfold okAt; omega
  · subst e
    have q : (∀ j, j < 2 → okAt (z / pwB (2 - 1 - j) % 256) j) ↔ okAt (z / 256 % 256) 0 ∧ okAt (z / 1 % 256) 1 := ⟨fun h => ⟨h 0 (by omega), h 1 (by omega)⟩, fun h j hj => by
      have : j = 0 ∨ j = 1 := by omega
      rcases this with e | e <;> subst e
      · exact h.1
      · exact h.2⟩
    rw [q]; unfold okAt; omega
  · subst e
    have q : (∀ j, j < 3 → okAt (z / pwB (3 - 1 - j) % 256) j) ↔ okAt (z / 65536 % 256) 0 ∧ okAt (z / 256 % 256) 1 ∧ okAt (z / 1 % 256) 2 := ⟨fun h => ⟨h 0 (by omega), h 1 (by omega), h 2 (by omega)⟩, fun h j hj => by
      have : j = 0 ∨ j = 1 ∨ j = 2 := by omega
      rcases this with e | e | e <;> subst e
      · exact h.1
      · exact h.2.1
      · exact h.2.2⟩
    rw [q]; unfold okAt; omega
  · subst e
    have q : (∀ j, j < 4 → okAt (z / pwB (4 - 1 - j) % 256) j) ↔ okAt (z / 16777216 % 256) 0 ∧ okAt (z / 65536 % 256) 1 ∧ okAt (z / 256 % 256) 2 ∧ okAt (z / 1 % 256) 3 := ⟨fun h => ⟨h 0 (by omega), h 1 (by omega), h 2 (by omega), h 3 (by omega)⟩, fun h j hj => by
      have : j = 0 ∨ j = 1 ∨ j = 2 ∨ j = 3 := by omega
      rcases this with e | e | e | e <;> subst e
      · exact h.1
      · exact h.2.1
      · exact h.2.2.1
      · exact h.2.2.2⟩
    have d1 : z / 65536 = z / 256 / 256 := by omega
    have d2 : z / 16777216 = z / 256 / 256 / 256 := by omega
    have d3 : z / 1 = z := Int.ediv_one z
    have d4 : z / 256 / 256 / 256 / 256 = 0 := by omega
    rw [q, d1, d2, d3]; unfold okAt
    have d5 : 1 ≤ z / 256 / 256 / 256 ∧ z / 256 / 256 / 256 < 256 := by omega
    have r2 : 256 ≤ z / 256 / 256 := by omega
    have r1 : 256 ≤ z / 256 := by omega
    clear d1 d2 d3 d4 q
    generalize z / 256 / 256 / 256 = c3 at *
    generalize z / 256 / 256 = c2 at *
    generalize z / 256 = c1 at *
    constructor
    · rintro ⟨h1, h2, h | ⟨a0, h | ⟨a1, h | ⟨a2, h | ⟨a3, -⟩⟩⟩⟩⟩
      · omega
      · omega
      · omega
      · omega
      · exact ⟨by omega, by omega, by omega, by omega⟩
    · rintro ⟨b0, b1, b2, b3⟩
      exact ⟨by omega, by omega, Or.inr ⟨by omega, Or.inr ⟨by omega, Or.inr ⟨by omega, Or.inr ⟨by omega, trivial⟩⟩⟩⟩⟩
-- trees: nesting, parents
theorem nest {n : Nat} {f : Nat → Int} {σ : Nat → Nat} (hz : Sz n f σ 0) : ∀ d a, n - a = d → a < n → ∀ b, a ≤ b → b < a + σ a → b + σ b ≤ a + σ a := by
  intro d
  induction d using Nat.strongRecOn with
  | ind d ih =>
    intro a hd ha b h1 h2
    obtain ⟨a1, a2, a3, a4⟩ := hz a (Nat.zero_le _) ha
    by_cases e : a = b
    · subst e; exact Nat.le_refl _
    by_cases hp : pP (f a)
    · obtain ⟨c1, c2, c3⟩ := a3 hp
      by_cases hb : b < a + 1 + σ (a + 1)
      · have := ih (n - (a + 1)) (by omega) (a + 1) rfl c1 b (by omega) hb
        omega
      · have := ih (n - (a + 1 + σ (a + 1))) (by omega) (a + 1 + σ (a + 1)) rfl c2 b (by omega) (by omega)
        omega
    · rw [a4 hp] at h2; omega
/-- W gives the node of which each is a part -/
def parO (n : Nat) (f : Nat → Int) (σ : Nat → Nat) (W : Nat → Int) : Prop := W 0 = -1 ∧ ∀ p, p < n → pP (f p) → W (p + 1) = (p : Int) ∧ W (p + 1 + σ (p + 1)) = (p : Int)
/-- the same, for the nodes from k on -/
def parK (n : Nat) (f : Nat → Int) (σ : Nat → Nat) (W : Nat → Int) (k : Nat) : Prop := ∀ p, k ≤ p → p < n → pP (f p) → W (p + 1) = (p : Int) ∧ W (p + 1 + σ (p + 1)) = (p : Int)
theorem parK_leaf {n : Nat} {f : Nat → Int} {σ : Nat → Nat} {W : Nat → Int} {i : Nat} (h : parK n f σ W (i + 1)) (hp : ¬ pP (f i)) : parK n f σ W i := fun p h1 h2 h3 => h p (by
  have : p ≠ i := fun e => by subst e; exact hp h3
  omega) h2 h3
theorem parK_part {n : Nat} {f : Nat → Int} {σ : Nat → Nat} {W : Nat → Int} {i : Nat} (hz : Sz n f σ 0) (hi : i < n) (h : parK n f σ W (i + 1)) (hp : pP (f i)) : parK n f σ (uZ (uZ W (i + 1) (i : Int)) (i + 1 + σ (i + 1)) (i : Int)) i := by
  obtain ⟨a1, a2, a3, a4⟩ := hz i (Nat.zero_le _) hi
  obtain ⟨c1, c2, c3⟩ := a3 hp
  obtain ⟨s1, -⟩ := hz (i + 1) (Nat.zero_le _) c1
  intro p h1 h2 h3
  by_cases e : p = i
  · subst e
    rw [uZ_s, uZ_n (by omega), uZ_s]; exact ⟨rfl, rfl⟩
  · obtain ⟨q1, q2⟩ := h p (by omega) h2 h3
    obtain ⟨b1, b2, b3, b4⟩ := hz p (Nat.zero_le _) h2
    obtain ⟨d1, d2, d3⟩ := b3 h3
    obtain ⟨t1, -⟩ := hz (p + 1) (Nat.zero_le _) d1
    obtain ⟨u1, -⟩ := hz (p + 1 + σ (p + 1)) (Nat.zero_le _) d2
    have hn : p < i + 1 + σ (i + 1) → p + σ p ≤ i + 1 + σ (i + 1) := fun z => nest hz _ (i + 1) rfl c1 p (by omega) z
    rw [uZ_n (by omega), uZ_n (by omega), uZ_n (by omega), uZ_n (by omega)]
    exact ⟨q1, q2⟩
theorem parK_0 {n : Nat} {f : Nat → Int} {σ : Nat → Nat} {W : Nat → Int} (h : parK n f σ W 0) : parO n f σ (uZ W 0 (-1)) := ⟨uZ_s, fun p h1 h2 => by
  obtain ⟨q1, q2⟩ := h p (Nat.zero_le _) h1 h2
  rw [uZ_n (by omega), uZ_n (by omega)]; exact ⟨q1, q2⟩⟩
/-- the part of a node that a part lies in, and what stands around them -/
theorem par_at {n : Nat} {f : Nat → Int} {σ : Nat → Nat} {W : Nat → Int} (hz : Sz n f σ 0) (h0 : σ 0 = n) (hW : parO n f σ W) {j : Nat} (h1 : 0 < j) (h2 : j < n) : ∃ p : Nat, W j = (p : Int) ∧ p < j ∧ pP (f p) ∧ p + 1 < n ∧ p + 1 + σ (p + 1) < n ∧ ((j = p + 1 ∧ j ≠ p + 1 + σ (p + 1) ∧ env f j = env f p) ∨ (j = p + 1 + σ (p + 1) ∧ env f j = lastE f p (env f p))) := by
  obtain ⟨p, q1, q2, q3⟩ := par hz h0 h1 h2
  obtain ⟨a1, a2, a3, a4⟩ := hz p (Nat.zero_le _) (by omega)
  obtain ⟨c1, c2, c3⟩ := a3 q2
  obtain ⟨s1, -⟩ := hz (p + 1) (Nat.zero_le _) c1
  obtain ⟨w1, w2⟩ := hW.2 p (by omega) q2
  rcases q3 with q3 | q3
  · subst q3
    exact ⟨p, w1, q1, q2, c1, c2, Or.inl ⟨rfl, by omega, env_1 hz h0 (by omega) q2⟩⟩
  · subst q3
    exact ⟨p, w2, q1, q2, c1, c2, Or.inr ⟨rfl, env_2 hz h0 (by omega) q2⟩⟩
theorem stk_le (f : Nat → Int) : ∀ k, (stk f k).length ≤ k + 1
  | 0 => Nat.le_refl _
  | k + 1 => by
    have ih := stk_le f k
    cases hs : stk f k with
    | nil => rw [stk_0 hs]; exact Nat.zero_le _
    | cons e r =>
      have hne : stk f k ≠ [] := by rw [hs]; exact List.cons_ne_nil _ _
      by_cases hp : pP (f k)
      · have := stk_up hne hp; omega
      · have := stk_dn hne hp; omega
