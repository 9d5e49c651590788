section GCp
variable {X : gC} {cc : ByteArray} {own : String} {l : Launch} {E : gE} {rm : Room} {nL : Nat} {ws : va_W} {cells slots pc index : Nat} {lv : List (Nat × Value)} {st : List Value}
theorem cpy_i (f g : Nat → Int) (a b n : Nat) : va_cpy (fun j => iI (f j)) (fun j => iI (g j)) a b n = fun j => iI (va_cpy f g a b n j) := by
  funext j; unfold va_cpy; split <;> rfl
theorem cpy_l (f g : Nat → Int) (a b n : Nat) : va_cpy (fun j => lI (f j)) (fun j => lI (g j)) a b n = fun j => lI (va_cpy f g a b n j) := by
  funext j; unfold va_cpy; split <;> rfl
theorem g_copyI (hX : gOK X cc own l E rm nL) (k1 : Cond.methodLink own index arraycopyName ∈ gTB) (k2 : Cond.native arraycopyName ∈ gTB) (k3 : Cond.static arraycopyName ∈ gTB) (k4 : Cond.initialized "java/lang/System" ∈ gTB) (q0 q1 : Nat) {a0 a n0 n1 : Nat} {f g : Nat → Int} {n : Int} (he0 : ws[q0]? = some (a0, aI E n0 f)) (he1 : ws[q1]? = some (a, aI E n1 g)) (hn : 0 ≤ n ∧ n < 2147483648 ∧ n ≤ n0 ∧ n ≤ n1) (hfr : 1 ≤ rm.frames) (hlo : 26 ≤ rm.locals) (hcat : (st.map fun v => v.category).sum ≤ 8) (hdg : decode cc pc = .ok (.invokestatic index, 3))
    (kk : gW X (ws.set q1 (a, aI E n1 (va_cpy f g 0 0 n.toNat))) cells slots (pc + 3) lv st) : gW X ws cells slots pc lv (.int (iI n) :: .int (iI 0) :: .ref a :: .int (iI 0) :: .ref a0 :: st) := by
  obtain ⟨p, l', e, R, s, m, args, below, meth, c, A, nL', Q, E'⟩ := X
  obtain ⟨rfl, rfl, rfl, rfl, hx, hbb, hml, hown, hts, hK, hN, hA⟩ := hX
  intro H locs ls hP hD hS hl
  have e0 : (iI 0).toNatClampNeg = 0 := iI_cl (by decide) (by decide)
  have en : (iI n).toNatClampNeg = n.toNat := iI_cl hn.1 hn.2.1
  refine va_copyi hx hbb (by rw [hml]; exact hl.1.symm) hown (hts _ k1) (hts _ k2) (hts _ k3) (hts _ k4) hK hP hD hS q0 q1 0 0 he0 he1 rfl rfl rfl (iI_nn (by decide) (by decide)) (iI_nn (by decide) (by decide)) (iI_nn hn.1 hn.2.1) (by rw [e0, en]; omega) (by rw [e0, en]; omega) (fun i hi => rfl) hfr (by show _ + 18 ≤ _; omega) hdg (fun H1 locs1 hP1 hD1 hS1 => ?_)
  rw [e0, en, cpy_i] at hP1 hD1
  exact kk H1 locs1 ls hP1 hD1 hS1 hl
theorem g_copyL (hX : gOK X cc own l E rm nL) (k1 : Cond.methodLink own index arraycopyName ∈ gTB) (k2 : Cond.native arraycopyName ∈ gTB) (k3 : Cond.static arraycopyName ∈ gTB) (k4 : Cond.initialized "java/lang/System" ∈ gTB) (q0 q1 : Nat) {a0 a n0 n1 : Nat} {f g : Nat → Int} {n : Int} (he0 : ws[q0]? = some (a0, aL E n0 f)) (he1 : ws[q1]? = some (a, aL E n1 g)) (hn : 0 ≤ n ∧ n < 2147483648 ∧ n ≤ n0 ∧ n ≤ n1) (hfr : 1 ≤ rm.frames) (hlo : 26 ≤ rm.locals) (hcat : (st.map fun v => v.category).sum ≤ 8) (hdg : decode cc pc = .ok (.invokestatic index, 3))
    (kk : gW X (ws.set q1 (a, aL E n1 (va_cpy f g 0 0 n.toNat))) cells slots (pc + 3) lv st) : gW X ws cells slots pc lv (.int (iI n) :: .int (iI 0) :: .ref a :: .int (iI 0) :: .ref a0 :: st) := by
  obtain ⟨p, l', e, R, s, m, args, below, meth, c, A, nL', Q, E'⟩ := X
  obtain ⟨rfl, rfl, rfl, rfl, hx, hbb, hml, hown, hts, hK, hN, hA⟩ := hX
  intro H locs ls hP hD hS hl
  have e0 : (iI 0).toNatClampNeg = 0 := iI_cl (by decide) (by decide)
  have en : (iI n).toNatClampNeg = n.toNat := iI_cl hn.1 hn.2.1
  refine va_copyl hx hbb (by rw [hml]; exact hl.1.symm) hown (hts _ k1) (hts _ k2) (hts _ k3) (hts _ k4) hK hP hD hS q0 q1 1 1 he0 he1 rfl rfl rfl (iI_nn (by decide) (by decide)) (iI_nn (by decide) (by decide)) (iI_nn hn.1 hn.2.1) (by rw [e0, en]; omega) (by rw [e0, en]; omega) (fun i hi => rfl) hfr (by show _ + 18 ≤ _; omega) hdg (fun H1 locs1 hP1 hD1 hS1 => ?_)
  rw [e0, en, cpy_l] at hP1 hD1
  exact kk H1 locs1 ls hP1 hD1 hS1 hl
end GCp
/-- the nodes of a row, as a list -/
def Lr (n : Nat) (f g : Nat → Int) : List (Int × Int) := (List.range n).map (fun j => (f j, g j))
theorem Lr_len (n : Nat) (f g : Nat → Int) : (Lr n f g).length = n := by simp [Lr]
theorem Lr_succ (n : Nat) (f g : Nat → Int) : Lr (n + 1) f g = Lr n f g ++ [(f n, g n)] := by simp [Lr, List.range_succ]
theorem Lr_congr {n : Nat} {f g f' g' : Nat → Int} (h : ∀ j, j < n → f' j = f j ∧ g' j = g j) : Lr n f' g' = Lr n f g := by
  unfold Lr
  apply List.map_congr_left
  intro j hj
  have := h j (List.mem_range.mp hj)
  rw [this.1, this.2]
theorem Lr_get {n : Nat} {f g : Nat → Int} {j : Nat} (h : j < n) : (Lr n f g)[j]? = some (f j, g j) := by
  simp [Lr, h]
theorem Lr_eq {n n' : Nat} {f g f' g' : Nat → Int} (h : Lr n f g = Lr n' f' g') : n = n' ∧ ∀ j, j < n → f j = f' j ∧ g j = g' j := by
  have e : n = n' := by have := congrArg List.length h; rwa [Lr_len, Lr_len] at this
  subst e
  refine ⟨rfl, fun j hj => ?_⟩
  have h1 := congrArg (fun l => l[j]?) h
  simp only [Lr_get hj, Option.some.injEq, Prod.mk.injEq] at h1
  exact h1
abbrev rL (ρ : RowT) : List (Int × Int) := Lr (rN ρ) (rF ρ) (rG ρ)
/-- what a growing costs -/
def rGrow (ρ ρ' : RowT) (dc ds : Nat) : Prop := rC ρ ≤ rC ρ' ∧ dc ≤ rC ρ' - rC ρ ∧ ds ≤ 6 * (rC ρ' - rC ρ)
theorem rGrow.rf (ρ : RowT) : rGrow ρ ρ 0 0 := ⟨Nat.le_refl _, by omega, by omega⟩
theorem rowOK.u {ρ : RowT} (h : rowOK ρ) {n : Nat} {f g z : Nat → Int} (hn : n ≤ 3000 ∧ n ≤ rC ρ) (hf : ∀ j, gin (f j)) (hg : ∀ j, gil (g j)) (hz : ∀ j, gin (z j)) : rowOK (rA ρ, n, rC ρ, f, g, z) := ⟨⟨hn.1, hn.2, h.1.2.2.1, h.1.2.2.2⟩, hf, hg, hz⟩
theorem uZ_gin {f : Nat → Int} {k : Nat} {x : Int} (h : ∀ j, gin (f j)) (hx : gin x) : ∀ j, gin (uZ f k x j) := by
  intro j; unfold uZ; split
  · exact hx
  · exact h j
theorem uZ_gil {f : Nat → Int} {k : Nat} {x : Int} (h : ∀ j, gil (f j)) (hx : gil x) : ∀ j, gil (uZ f k x j) := by
  intro j; unfold uZ; split
  · exact hx
  · exact h j
theorem cpy_gin {f g : Nat → Int} {n : Nat} (hf : ∀ j, gin (f j)) (hg : ∀ j, gin (g j)) : ∀ j, gin (va_cpy f g 0 0 n j) := by
  intro j; unfold va_cpy; split
  · exact hf _
  · exact hg j
theorem cpy_gil {f g : Nat → Int} {n : Nat} (hf : ∀ j, gil (f j)) (hg : ∀ j, gil (g j)) : ∀ j, gil (va_cpy f g 0 0 n j) := by
  intro j; unfold va_cpy; split
  · exact hf _
  · exact hg j
theorem cpy_lo {α : Type} {f g : Nat → α} {n j : Nat} (h : j < n) : va_cpy f g 0 0 n j = f j := by
  unfold va_cpy; rw [if_pos (by omega)]; congr 1; omega
