-- a closed term, contracted, is a closed term
theorem npP {k : Int} (hb : ¬ bP k) (ha : ¬ k = 4) : ¬ pP k := by omega
section SimS
variable {n : Nat} {f g : Nat → Int} {σ : Nat → Nat} {un : Nat}
theorem sd_in (hz : Sz n f σ 0) {k j e : Nat} {r : List Nat} (hk : k < n) (hs : sd f k = e :: r) (h1 : k ≤ j) (h2 : j < k + σ k) : ∃ x q, sd f j = x :: (q ++ r) := by
  unfold sd at hs ⊢
  cases hq : stk f k with
  | nil => rw [hq] at hs; cases hs
  | cons a t =>
    rw [hq] at hs
    obtain ⟨x, p, hp⟩ := stk_in hz _ k rfl hk a t hq j h1 h2
    refine ⟨x.length, p.map List.length, ?_⟩
    rw [hp, ← (List.cons.inj hs).2]
    simp
theorem sd_end (hz : Sz n f σ 0) {k e : Nat} {r : List Nat} (hk : k < n) (hs : sd f k = e :: r) : sd f (k + σ k) = r := by
  unfold sd at hs ⊢
  cases hq : stk f k with
  | nil => rw [hq] at hs; cases hs
  | cons a t =>
    rw [hq] at hs
    rw [(stk_end hz _ k rfl hk a t hq).1]
    exact (List.cons.inj hs).2
theorem sd_last (hz : Sz n f σ 0) {k e : Nat} {r : List Nat} (hk : k < n) (hs : sd f k = e :: r) (hp : pP (f k)) : sd f (k + 1 + σ (k + 1)) = (if bP (f k) then e + 1 else e) :: r := by
  unfold sd at hs ⊢
  cases hq : stk f k with
  | nil => rw [hq] at hs; cases hs
  | cons a t =>
    rw [hq] at hs
    obtain ⟨e1, e2⟩ := List.cons.inj hs
    rw [(stk_end hz _ k rfl hk a t hq).2 hp]
    show (lastE f k a).length :: t.map List.length = _
    rw [e2]
    unfold lastE
    by_cases hb : bP (f k)
    · rw [if_pos hb, if_pos hb, List.length_cons, e1]
    · rw [if_neg hb, if_neg hb, e1]
theorem sd_first {k e : Nat} {r : List Nat} (hs : sd f k = e :: r) (hp : pP (f k)) : ∃ q, sd f (k + 1) = e :: q := by
  by_cases hb : bP (f k)
  · exact ⟨_, sd_b hs hb⟩
  · exact ⟨_, sd_a hs (by omega)⟩
theorem sd_part {k j : Nat} {p Rv : List Nat} (h : sd f j = p ++ Rv) (hx : ∃ x q, sd f j = x :: (q ++ Rv)) : ∃ a q, p = a :: q := by
  obtain ⟨x, q, hq⟩ := hx
  cases p with
  | nil =>
    rw [h] at hq
    have := congrArg List.length hq
    simp at this
    omega
  | cons a q => exact ⟨a, q, rfl⟩
theorem sim_v (hz : Sz n f σ 0) (hc : ∀ j, j < n → clo f g un j) {v d w : Nat} {Rv R : List Nat} (hv : v < n) (hs : sd f v = d :: Rv) : ∀ i, i ≤ σ v → ∃ p, sd f (v + i) = p ++ Rv ∧ (∀ x ∈ p, d ≤ x) ∧ dm un ((d + w) :: R) (vL f g v i (w : Int)) = some (p.map (fun x => x + w) ++ R) := by
  intro i
  induction i with
  | zero => intro _; exact ⟨[d], hs, fun x hx => by rw [List.mem_singleton.mp hx]; exact Nat.le_refl _, rfl⟩
  | succ i ih =>
    intro hi
    obtain ⟨p, h1, h2, h3⟩ := ih (by omega)
    have hin := (hz v (Nat.zero_le _) hv).2.1
    obtain ⟨a, q, rfl⟩ := sd_part (k := v) h1 (sd_in hz hv hs (by omega) (by omega))
    have h1' : sd f (v + i) = a :: (q ++ Rv) := h1
    have hda : d ≤ a := h2 a List.mem_cons_self
    have hdv : (env f v).length = d := sd_hd hs
    have hdi : (env f (v + i)).length = a := sd_hd h1'
    have hcl := hc (v + i) (by omega)
    have ed : (dep f (v + i) : Int) = (a : Int) := by show (((env f (v + i)).length : Nat) : Int) = _; rw [hdi]
    have ev : (dep f v : Int) = (d : Int) := by show (((env f v).length : Nat) : Int) = _; rw [hdv]
    rw [vL_succ, dm_app h3]
    by_cases hb : bP (f (v + i))
    · refine ⟨a :: (a + 1) :: q, sd_b h1' hb, fun x hx => ?_, dm_one ?_⟩
      · rcases List.mem_cons.mp hx with hx | hx
        · omega
        rcases List.mem_cons.mp hx with hx | hx
        · omega
        · exact h2 x (List.mem_cons_of_mem _ hx)
      · rw [vN_f (fun h => by have := h.1; omega)]
        show stp un ((a + w) :: (q.map (fun x => x + w) ++ R)) _ = some ((a + w) :: (a + 1 + w) :: (q.map (fun x => x + w) ++ R))
        rw [stp_b hb, show a + w + 1 = a + 1 + w by omega]
    by_cases ha : f (v + i) = 4
    · refine ⟨a :: a :: q, sd_a h1' ha, fun x hx => ?_, dm_one ?_⟩
      · rcases List.mem_cons.mp hx with hx | hx
        · omega
        · exact h2 x hx
      · rw [vN_f (fun h => by have := h.1; omega)]
        show stp un ((a + w) :: (q.map (fun x => x + w) ++ R)) _ = some ((a + w) :: (a + w) :: (q.map (fun x => x + w) ++ R))
        rw [stp_a ha]
    · refine ⟨q, sd_l h1' (npP hb ha), fun x hx => h2 x (List.mem_cons_of_mem _ hx), dm_one ?_⟩
      show stp un ((a + w) :: (q.map (fun x => x + w) ++ R)) _ = some (q.map (fun x => x + w) ++ R)
      by_cases hf : f (v + i) = 0 ∧ (dep f (v + i) : Int) - dep f v ≤ g (v + i)
      · rw [vN_t hf]
        have := hcl.1 hf.1
        exact stp_l (by show ¬ pP (f (v + i)); omega) (fun _ => by show 0 ≤ g (v + i) + (w : Int) ∧ g (v + i) + (w : Int) < ((a + w : Nat) : Int); omega) (fun h7 => by have h8 : f (v + i) = 7 := h7; omega)
      · rw [vN_f hf]
        exact stp_l (by show ¬ pP (f (v + i)); omega) (fun h0 => by
          have := hcl.1 h0
          show 0 ≤ g (v + i) ∧ g (v + i) < ((a + w : Nat) : Int)
          omega) hcl.2
theorem sim_b (hz : Sz n f σ 0) (hc : ∀ j, j < n → clo f g un j) {b v d lo : Nat} {Rb Rv R : List Nat} (hdb : (env f b).length = d) (hlo : lo < n) (hsl : sd f lo = (d + 1) :: Rb) (hv : v < n) (hsv : sd f v = d :: Rv) : ∀ i, i ≤ σ lo → ∃ p, sd f (lo + i) = p ++ Rb ∧ (∀ x ∈ p, d + 1 ≤ x) ∧ dm un (d :: R) (bL f g b v (σ v) lo i) = some (p.map (fun x => x - 1) ++ R) := by
  intro i
  induction i with
  | zero => intro _; exact ⟨[d + 1], hsl, fun x hx => by rw [List.mem_singleton.mp hx]; exact Nat.le_refl _, rfl⟩
  | succ i ih =>
    intro hi
    obtain ⟨p, h1, h2, h3⟩ := ih (by omega)
    have hin := (hz lo (Nat.zero_le _) hlo).2.1
    obtain ⟨a, q, rfl⟩ := sd_part (k := lo) h1 (sd_in hz hlo hsl (by omega) (by omega))
    have h1' : sd f (lo + i) = a :: (q ++ Rb) := h1
    have hda : d + 1 ≤ a := h2 a List.mem_cons_self
    have hdi : (env f (lo + i)).length = a := sd_hd h1'
    have hcl := hc (lo + i) (by omega)
    have ed : (dep f (lo + i) : Int) = (a : Int) := by show (((env f (lo + i)).length : Nat) : Int) = _; rw [hdi]
    have eb : (dep f b : Int) = (d : Int) := by show (((env f b).length : Nat) : Int) = _; rw [hdb]
    rw [bL_succ, dm_app h3]
    by_cases hb : bP (f (lo + i))
    · refine ⟨a :: (a + 1) :: q, sd_b h1' hb, fun x hx => ?_, ?_⟩
      · rcases List.mem_cons.mp hx with hx | hx
        · omega
        rcases List.mem_cons.mp hx with hx | hx
        · omega
        · exact h2 x (List.mem_cons_of_mem _ hx)
      · rw [nL_1 (by omega)]
        refine dm_one ?_
        show stp un ((a - 1) :: (q.map (fun x => x - 1) ++ R)) _ = some ((a - 1) :: (a + 1 - 1) :: (q.map (fun x => x - 1) ++ R))
        rw [stp_b hb, show a - 1 + 1 = a + 1 - 1 by omega]
    by_cases ha : f (lo + i) = 4
    · refine ⟨a :: a :: q, sd_a h1' ha, fun x hx => ?_, ?_⟩
      · rcases List.mem_cons.mp hx with hx | hx
        · omega
        · exact h2 x hx
      · rw [nL_1 (by omega)]
        refine dm_one ?_
        show stp un ((a - 1) :: (q.map (fun x => x - 1) ++ R)) _ = some ((a - 1) :: (a - 1) :: (q.map (fun x => x - 1) ++ R))
        rw [stp_a ha]
    · refine ⟨q, sd_l h1' (npP hb ha), fun x hx => h2 x (List.mem_cons_of_mem _ hx), ?_⟩
      show dm un ((a - 1) :: (q.map (fun x => x - 1) ++ R)) _ = some (q.map (fun x => x - 1) ++ R)
      by_cases hf : f (lo + i) = 0
      · have hg := hcl.1 hf
        by_cases c1 : g (lo + i) < (dep f (lo + i) : Int) - ((dep f b : Int) + 1)
        · rw [nL_1 (Or.inr c1)]
          exact dm_one (stp_l (by show ¬ pP (f (lo + i)); omega) (fun _ => by show 0 ≤ g (lo + i) ∧ g (lo + i) < ((a - 1 : Nat) : Int); omega) (fun h7 => by have h8 : f (lo + i) = 7 := h7; omega))
        by_cases c2 : g (lo + i) = (dep f (lo + i) : Int) - ((dep f b : Int) + 1)
        · rw [nL_2 hf c2]
          obtain ⟨p2, k1, k2, k3⟩ := sim_v hz hc (w := a - (d + 1)) (R := q.map (fun x => x - 1) ++ R) hv hsv (σ v) (Nat.le_refl _)
          have hp2 : p2 = [] := by
            have := sd_end hz hv hsv
            rw [k1] at this
            have := congrArg List.length this
            simp at this
            exact this
          rw [hp2] at k3
          rw [show (dep f (lo + i) : Int) - ((dep f b : Int) + 1) = ((a - (d + 1) : Nat) : Int) by omega, show a - 1 = d + (a - (d + 1)) by omega]
          exact k3
        · rw [nL_3 hf (by omega)]
          exact dm_one (stp_l (by show ¬ pP (0 : Int); decide) (fun _ => by show 0 ≤ g (lo + i) - 1 ∧ g (lo + i) - 1 < ((a - 1 : Nat) : Int); omega) (fun h7 => by have h8 : (0 : Int) = 7 := h7; omega))
      · rw [nL_1 (Or.inl hf)]
        exact dm_one (stp_l (by show ¬ pP (f (lo + i)); omega) (fun h0 => absurd h0 hf) hcl.2)
theorem cOut_dm (hz : Sz n f σ 0) (h0 : σ 0 = n) (hT : cloT n f g un) {k b v : Nat} (hcb : cbv f σ n k b v) : dm un [0] (cOut f g σ n k b v) = some [] := by
  obtain ⟨hT1, hc⟩ := hT
  obtain ⟨t1, t2⟩ := OneT_stk.mp hT1
  have hne : ∀ j, j < n → ∃ e r, sd f j = e :: r := fun j hj => by
    cases hs : sd f j with
    | nil => exact absurd (sd_nil.mp hs) (t1 j hj)
    | cons e r => exact ⟨e, r, rfl⟩
  have hsne : ∀ j, j < n → sd f j ≠ [] := fun j hj q => t1 j hj (sd_nil.mp q)
  obtain ⟨hk, hcc⟩ := hcb
  obtain ⟨d, R, hsk⟩ := hne k hk
  obtain ⟨s1, s2, s3, s4⟩ := hz k (Nat.zero_le _) hk
  have hpk : pP (f k) := by omega
  obtain ⟨p1, p2, p3⟩ := s3 hpk
  -- the binder, its last part, the value
  obtain ⟨hb, hbp, hdb, lo1, ⟨Rb, hsl⟩, hv, ⟨Rv, hsv⟩⟩ : b < n ∧ bP (f b) ∧ (env f b).length = d ∧ b + 1 + σ (b + 1) < n ∧ (∃ Rb, sd f (b + 1 + σ (b + 1)) = (d + 1) :: Rb) ∧ v < n ∧ ∃ Rv, sd f v = d :: Rv := by
    rcases hcc with ⟨c1, c2, c3⟩ | ⟨c1, c2, c3, c4⟩
    · subst c2 c3
      have hl := sd_last hz hk hsk hpk
      rw [if_pos (by omega)] at hl
      exact ⟨hk, by omega, sd_hd hsk, p2, ⟨R, hl⟩, p1, sd_first hsk hpk⟩
    · subst c3 c4
      have hl := sd_last hz hk hsk hpk
      rw [if_neg (by omega)] at hl
      obtain ⟨q, hq⟩ := sd_first hsk hpk
      have hp1 : pP (f (k + 1)) := by omega
      obtain ⟨u1, u2, u3⟩ := (hz (k + 1) (Nat.zero_le _) p1).2.2.1 hp1
      have hl2 := sd_last hz p1 hq hp1
      rw [if_pos (by omega)] at hl2
      exact ⟨p1, by omega, sd_hd hq, u2, ⟨q, hl2⟩, p2, ⟨R, hl⟩⟩
  have e1 : dm un [0] (seg f g 0 k) = some (d :: R) := by
    have := dm_seg (f := f) (g := g) (un := un) (a := 0) k (fun j _ hj => ⟨hsne j (by omega), hc j (by omega)⟩)
    rw [Nat.zero_add, hsk] at this
    exact this
  have e2 : dm un (d :: R) (bL f g b v (σ v) (b + 1 + σ (b + 1)) (σ (b + 1 + σ (b + 1)))) = some R := by
    obtain ⟨p, k1, k2, k3⟩ := sim_b hz hc (R := R) hdb lo1 hsl hv hsv (σ (b + 1 + σ (b + 1))) (Nat.le_refl _)
    have hp : p = [] := by
      have := sd_end hz lo1 hsl
      rw [k1] at this
      have := congrArg List.length this
      simp at this
      exact this
    rw [hp] at k3
    exact k3
  have e3 : dm un R (seg f g (k + σ k) (n - (k + σ k))) = some [] := by
    have := dm_seg (f := f) (g := g) (un := un) (a := k + σ k) (n - (k + σ k)) (fun j _ hj => ⟨hsne j (by omega), hc j (by omega)⟩)
    rw [sd_end hz hk hsk, show k + σ k + (n - (k + σ k)) = n by omega, sd_nil.mpr t2] at this
    exact this
  unfold cOut
  rw [dm_app (by rw [dm_app e1]; exact e2)]
  exact e3
end SimS
theorem cOut_clo {n : Nat} {f g : Nat → Int} {σ : Nat → Nat} {un : Nat} (hz : Sz n f σ 0) (h0 : σ 0 = n) (hT : cloT n f g un) {k b v : Nat} (hcb : cbv f σ n k b v) {N : Nat} {D Q : Nat → Int} (hL : Lr N D Q = cOut f g σ n k b v) : cloT N D Q un := dm_cloT (by rw [hL]; exact cOut_dm hz h0 hT hcb)
