-- LAYER: the heap
def aI (E : gE) (n : Nat) (f : Nat → Int) : va_E := .inl (E.2.1, n, .inl (fun j => iI (f j)))
def aL (E : gE) (n : Nat) (f : Nat → Int) : va_E := .inl (E.2.2.1, n, .inr (.inl (fun j => lI (f j))))
def aZ (E : gE) (n : Nat) (f : Nat → Int) : va_E := .inl (E.2.2.2, n, .inl (fun j => iI (f j)))
/-- a field as the class 'own' names it by its pool's row 'index': field k of class ci -/
def gF (own : String) (index ci k : Nat) (C : String) (T : u_T) (N : Nat) : Prop := (∀ w ∈ u_ws C T N, w ∈ gTB) ∧ vwCl[ci]? = some (C, T, N) ∧ k < N ∧ Cond.fieldLink own index (T k).1 (T k).2.1 (T k).2.2.1 ∈ gTB
/-- what is known of a class's fields -/
def gT (C : String) (T : u_T) (N : Nat) (ty : Nat → FieldType) : Prop := (∀ k, k < N → parseFieldDescriptor (T k).2.2.1 = some (ty k)) ∧ ∀ a, a < N → ∀ b, b < N → a ≠ b → (T a).2.1 ≠ (T b).2.1
def gInit : gC → Prop
  | (_, _, _, _, _, _, _, _, meth, _) => meth.name = "<init>"
section GH
variable {X : gC} {cc : ByteArray} {own : String} {l : Launch} {E : gE} {rm : Room} {nL : Nat} {ws : va_W} {cells slots pc : Nat} {lv : List (Nat × Value)} {st : List Value}
theorem g_ws (ws' : va_W) (h : ws = ws') (kk : gW X ws' cells slots pc lv st) : gW X ws cells slots pc lv st := h ▸ kk
theorem g_st (st' : List Value) (h : st = st') (kk : gW X ws cells slots pc lv st') : gW X ws cells slots pc lv st := h ▸ kk
theorem g_get (hX : gOK X cc own l E rm nL) {C : String} {T : u_T} {N ci k index a : Nat} {fs : List Value} {v : Value} (hf : gF own index ci k C T N) (q0 : Nat) (he : ws[q0]? = some (a, .inr (ci, fs))) (hv : fs[k]? = some v) (hdg : decode cc pc = .ok (.getfield index, 3)) (kk : gW X ws cells slots (pc + 3) lv (v :: st)) : gW X ws cells slots pc lv (.ref a :: st) := by
  obtain ⟨p, l', e, R, s, m, args, below, meth, c, A, nL', Q, E'⟩ := X
  obtain ⟨rfl, rfl, rfl, rfl, hx, hbb, hml, hown, hts, hK, hN, hA⟩ := hX
  intro H locs ls hP hD hS hl
  exact va_get hx hbb hts hf.1 hown hK hP q0 he hf.2.1 k hf.2.2.1 (hts _ hf.2.2.2) (fun _ h => h) hv hdg (kk H locs ls hP hD hS hl)
theorem g_put (hX : gOK X cc own l E rm nL) {C : String} {T : u_T} {N ci k index a : Nat} {fs : List Value} {v : Value} {ty : Nat → FieldType} (hf : gF own index ci k C T N) (ht : gT C T N ty) (q0 : Nat) (he : ws[q0]? = some (a, .inr (ci, fs))) (hfin : (T k).2.2.2 = false) (hn : narrow (ty k) v = v) (hfit : fits (ty k) v = true) (hl0 : k < fs.length) (hdg : decode cc pc = .ok (.putfield index, 3)) (kk : gW X (ws.set q0 (a, .inr (ci, fs.set k v))) cells slots (pc + 3) lv st) : gW X ws cells slots pc lv (v :: .ref a :: st) := by
  obtain ⟨p, l', e, R, s, m, args, below, meth, c, A, nL', Q, E'⟩ := X
  obtain ⟨rfl, rfl, rfl, rfl, hx, hbb, hml, hown, hts, hK, hN, hA⟩ := hX
  intro H locs ls hP hD hS hl
  exact va_put hx hbb hts hf.1 ty ht.1 ht.2 hown hK hP hD hS q0 he hf.2.1 k hf.2.2.1 (hts _ hf.2.2.2) (fun _ h => h) hfin (ht.1 k hf.2.2.1) hn hfit hl0 hdg (fun H1 locs1 hP1 hD1 hS1 => kk H1 locs1 ls hP1 hD1 hS1 hl)
theorem g_putF (hX : gOK X cc own l E rm nL) (hi : gInit X) {C : String} {T : u_T} {N ci k index a : Nat} {fs : List Value} {v : Value} {ty : Nat → FieldType} (hf : gF own index ci k C T N) (ht : gT C T N ty) (q0 : Nat) (he : ws[q0]? = some (a, .inr (ci, fs))) (hfin : (T k).2.2.2 = true) (hdecl : (T k).1 = own) (hn : narrow (ty k) v = v) (hfit : fits (ty k) v = true) (hl0 : k < fs.length) (hdg : decode cc pc = .ok (.putfield index, 3)) (kk : gW X (ws.set q0 (a, .inr (ci, fs.set k v))) cells slots (pc + 3) lv st) : gW X ws cells slots pc lv (v :: .ref a :: st) := by
  obtain ⟨p, l', e, R, s, m, args, below, meth, c, A, nL', Q, E'⟩ := X
  obtain ⟨rfl, rfl, rfl, rfl, hx, hbb, hml, hown, hts, hK, hN, hA⟩ := hX
  intro H locs ls hP hD hS hl
  exact va_putF hx hbb hts hf.1 ty ht.1 ht.2 hown hK hP hD hS q0 he hf.2.1 k hf.2.2.1 (hts _ hf.2.2.2) (fun _ h => h) hfin hi hdecl (ht.1 k hf.2.2.1) hn hfit hl0 hdg (fun H1 locs1 hP1 hD1 hS1 => kk H1 locs1 ls hP1 hD1 hS1 hl)
theorem g_new (hX : gOK X cc own l E rm nL) {C : String} {T : u_T} {N ci index : Nat} {ty : Nat → FieldType} (hin : ∀ w ∈ u_ws C T N, w ∈ gTB) (ht : gT C T N ty) (h1 : Cond.classLink own index C ∈ gTB) (h2 : Cond.instantiable C N ∈ gTB) (h3 : Cond.initialized C ∈ gTB) (hc : vwCl[ci]? = some (C, T, N)) (fs : List Value) (hfs : ∀ j, j < N → defaultValue (ty j) = vp_V fs j) (hcells : cells + 1 ≤ rm.cells) (hslots : slots + N ≤ rm.slots) (hdg : decode cc pc = .ok (.new index, 3)) (kk : ∀ q : Nat, gW X (ws ++ [(q, .inr (ci, fs))]) (cells + 1) (slots + N) (pc + 3) lv (.ref q :: st)) : gW X ws cells slots pc lv st := by
  obtain ⟨p, l', e, R, s, m, args, below, meth, c, A, nL', Q, E'⟩ := X
  obtain ⟨rfl, rfl, rfl, rfl, hx, hbb, hml, hown, hts, hK, hN, hA⟩ := hX
  intro H locs ls hP hD hS hl
  exact va_new hx hbb hts hin ty ht.1 hown (hts _ h1) (hts _ h2) (hts _ h3) hK hP hD hS hA hc hfs hcells hslots hdg (fun q H1 hP1 hD1 hS1 => kk q H1 locs ls hP1 hD1 hS1 hl)
theorem g_newI (hX : gOK X cc own l E rm nL) {n : Int} (h0 : Cond.arrayClass .int ∈ gTB) (h1 : 0 ≤ n) (h2 : n ≤ 100000) (hcells : cells + 1 ≤ rm.cells) (hslots : slots + n.toNat ≤ rm.slots) (hdg : decode cc pc = .ok (.newarray .int, 2)) (kk : ∀ q : Nat, gW X (ws ++ [(q, aI E n.toNat (fun _ => 0))]) (cells + 1) (slots + n.toNat) (pc + 2) lv (.ref q :: st)) : gW X ws cells slots pc lv (.int (iI n) :: st) := by
  obtain ⟨p, l', e, R, s, m, args, below, meth, c, A, nL', Q, E'⟩ := X
  obtain ⟨rfl, rfl, rfl, rfl, hx, hbb, hml, hown, hts, hK, hN, hA⟩ := hX
  intro H locs ls hP hD hS hl
  refine va_newa (atype := .int) (ty := .int) (N' := n.toNat) (a0 := (n.toNat, .inl (fun _ => iI 0))) hx hbb (hts _ h0) rfl hK hP hD hS hA (fun cA => rfl) (iI_nn h1 (by omega)) (iI_cl h1 (by omega)) (by simp [componentBytes]; omega) hcells hslots hdg (fun q cA H1 hK1 hP1 hD1 hS1 => ?_)
  have e1 : s.vm.findClass ("[" ++ FieldType.int.toString) = some E'.2.1 := (hK.2 0 _ rfl).2
  have e2 : s.vm.findClass ("[" ++ FieldType.int.toString) = some cA := (hK1.2 3 _ rfl).2
  have e3 : E'.2.1 = cA := Option.some.inj (e1.symm.trans e2)
  subst e3
  exact kk q H1 locs ls hP1 hD1 hS1 hl
theorem g_newL (hX : gOK X cc own l E rm nL) {n : Int} (h0 : Cond.arrayClass .long ∈ gTB) (h1 : 0 ≤ n) (h2 : n ≤ 100000) (hcells : cells + 1 ≤ rm.cells) (hslots : slots + n.toNat ≤ rm.slots) (hdg : decode cc pc = .ok (.newarray .long, 2)) (kk : ∀ q : Nat, gW X (ws ++ [(q, aL E n.toNat (fun _ => 0))]) (cells + 1) (slots + n.toNat) (pc + 2) lv (.ref q :: st)) : gW X ws cells slots pc lv (.int (iI n) :: st) := by
  obtain ⟨p, l', e, R, s, m, args, below, meth, c, A, nL', Q, E'⟩ := X
  obtain ⟨rfl, rfl, rfl, rfl, hx, hbb, hml, hown, hts, hK, hN, hA⟩ := hX
  intro H locs ls hP hD hS hl
  refine va_newa (atype := .long) (ty := .long) (N' := n.toNat) (a0 := (n.toNat, .inr (.inl (fun _ => lI 0)))) hx hbb (hts _ h0) rfl hK hP hD hS hA (fun cA => rfl) (iI_nn h1 (by omega)) (iI_cl h1 (by omega)) (by simp [componentBytes]; omega) hcells hslots hdg (fun q cA H1 hK1 hP1 hD1 hS1 => ?_)
  have e1 : s.vm.findClass ("[" ++ FieldType.long.toString) = some E'.2.2.1 := (hK.2 1 _ rfl).2
  have e2 : s.vm.findClass ("[" ++ FieldType.long.toString) = some cA := (hK1.2 3 _ rfl).2
  have e3 : E'.2.2.1 = cA := Option.some.inj (e1.symm.trans e2)
  subst e3
  exact kk q H1 locs ls hP1 hD1 hS1 hl
theorem g_newZ (hX : gOK X cc own l E rm nL) {n : Int} (h0 : Cond.arrayClass .boolean ∈ gTB) (h1 : 0 ≤ n) (h2 : n ≤ 100000) (hcells : cells + 1 ≤ rm.cells) (hslots : slots + n.toNat ≤ rm.slots) (hdg : decode cc pc = .ok (.newarray .boolean, 2)) (kk : ∀ q : Nat, gW X (ws ++ [(q, aZ E n.toNat (fun _ => 0))]) (cells + 1) (slots + n.toNat) (pc + 2) lv (.ref q :: st)) : gW X ws cells slots pc lv (.int (iI n) :: st) := by
  obtain ⟨p, l', e, R, s, m, args, below, meth, c, A, nL', Q, E'⟩ := X
  obtain ⟨rfl, rfl, rfl, rfl, hx, hbb, hml, hown, hts, hK, hN, hA⟩ := hX
  intro H locs ls hP hD hS hl
  refine va_newa (atype := .boolean) (ty := .boolean) (N' := n.toNat) (a0 := (n.toNat, .inl (fun _ => iI 0))) hx hbb (hts _ h0) rfl hK hP hD hS hA (fun cA => rfl) (iI_nn h1 (by omega)) (iI_cl h1 (by omega)) (by simp [componentBytes]; omega) hcells hslots hdg (fun q cA H1 hK1 hP1 hD1 hS1 => ?_)
  have e1 : s.vm.findClass ("[" ++ FieldType.boolean.toString) = some E'.2.2.2 := (hK.2 2 _ rfl).2
  have e2 : s.vm.findClass ("[" ++ FieldType.boolean.toString) = some cA := (hK1.2 3 _ rfl).2
  have e3 : E'.2.2.2 = cA := Option.some.inj (e1.symm.trans e2)
  subst e3
  exact kk q H1 locs ls hP1 hD1 hS1 hl
theorem g_iald (hX : gOK X cc own l E rm nL) {a n : Nat} {f : Nat → Int} {i : Int} (q0 : Nat) (he : ws[q0]? = some (a, aI E n f)) (hin : 0 ≤ i ∧ i < n ∧ i < 2147483648) (hdg : decode cc pc = .ok (.iaload, 1)) (kk : gW X ws cells slots (pc + 1) lv (.int (iI (f i.toNat)) :: st)) : gW X ws cells slots pc lv (.int (iI i) :: .ref a :: st) := by
  obtain ⟨p, l', e, R, s, m, args, below, meth, c, A, nL', Q, E'⟩ := X
  obtain ⟨rfl, rfl, rfl, rfl, hx, hbb, hml, hown, hts, hK, hN, hA⟩ := hX
  intro H locs ls hP hD hS hl
  refine va_iald hx hbb hK hP q0 0 he rfl (iI_in hin.1 hin.2.2 hin.2.1) hdg ?_
  rw [iI_cl hin.1 hin.2.2]
  exact kk H locs ls hP hD hS hl
theorem g_lald (hX : gOK X cc own l E rm nL) {a n : Nat} {f : Nat → Int} {i : Int} (q0 : Nat) (he : ws[q0]? = some (a, aL E n f)) (hin : 0 ≤ i ∧ i < n ∧ i < 2147483648) (hdg : decode cc pc = .ok (.laload, 1)) (kk : gW X ws cells slots (pc + 1) lv (.long (lI (f i.toNat)) :: st)) : gW X ws cells slots pc lv (.int (iI i) :: .ref a :: st) := by
  obtain ⟨p, l', e, R, s, m, args, below, meth, c, A, nL', Q, E'⟩ := X
  obtain ⟨rfl, rfl, rfl, rfl, hx, hbb, hml, hown, hts, hK, hN, hA⟩ := hX
  intro H locs ls hP hD hS hl
  refine va_lald hx hbb hK hP q0 1 he rfl (iI_in hin.1 hin.2.2 hin.2.1) hdg ?_
  rw [iI_cl hin.1 hin.2.2]
  exact kk H locs ls hP hD hS hl
theorem g_zald (hX : gOK X cc own l E rm nL) {a n : Nat} {f : Nat → Int} {i : Int} (q0 : Nat) (he : ws[q0]? = some (a, aZ E n f)) (hin : 0 ≤ i ∧ i < n ∧ i < 2147483648) (hdg : decode cc pc = .ok (.baload, 1)) (kk : gW X ws cells slots (pc + 1) lv (.int (iI (f i.toNat)) :: st)) : gW X ws cells slots pc lv (.int (iI i) :: .ref a :: st) := by
  obtain ⟨p, l', e, R, s, m, args, below, meth, c, A, nL', Q, E'⟩ := X
  obtain ⟨rfl, rfl, rfl, rfl, hx, hbb, hml, hown, hts, hK, hN, hA⟩ := hX
  intro H locs ls hP hD hS hl
  refine va_zald hx hbb hK hP q0 2 he rfl (iI_in hin.1 hin.2.2 hin.2.1) hdg ?_
  rw [iI_cl hin.1 hin.2.2]
  exact kk H locs ls hP hD hS hl
theorem g_iast (hX : gOK X cc own l E rm nL) {a n : Nat} {f : Nat → Int} {i x : Int} (q0 : Nat) (he : ws[q0]? = some (a, aI E n f)) (hin : 0 ≤ i ∧ i < n ∧ i < 2147483648) (hdg : decode cc pc = .ok (.iastore, 1)) (kk : gW X (ws.set q0 (a, aI E n (uZ f i.toNat x))) cells slots (pc + 1) lv st) : gW X ws cells slots pc lv (.int (iI x) :: .int (iI i) :: .ref a :: st) := by
  obtain ⟨p, l', e, R, s, m, args, below, meth, c, A, nL', Q, E'⟩ := X
  obtain ⟨rfl, rfl, rfl, rfl, hx, hbb, hml, hown, hts, hK, hN, hA⟩ := hX
  intro H locs ls hP hD hS hl
  refine va_iast hx hbb hK hP hD hS q0 0 he rfl (iI_in hin.1 hin.2.2 hin.2.1) hdg (fun H1 locs1 hP1 hD1 hS1 => ?_)
  rw [iI_cl hin.1 hin.2.2, uZ_i] at hP1 hD1
  exact kk H1 locs1 ls hP1 hD1 hS1 hl
theorem g_last (hX : gOK X cc own l E rm nL) {a n : Nat} {f : Nat → Int} {i x : Int} (q0 : Nat) (he : ws[q0]? = some (a, aL E n f)) (hin : 0 ≤ i ∧ i < n ∧ i < 2147483648) (hdg : decode cc pc = .ok (.lastore, 1)) (kk : gW X (ws.set q0 (a, aL E n (uZ f i.toNat x))) cells slots (pc + 1) lv st) : gW X ws cells slots pc lv (.long (lI x) :: .int (iI i) :: .ref a :: st) := by
  obtain ⟨p, l', e, R, s, m, args, below, meth, c, A, nL', Q, E'⟩ := X
  obtain ⟨rfl, rfl, rfl, rfl, hx, hbb, hml, hown, hts, hK, hN, hA⟩ := hX
  intro H locs ls hP hD hS hl
  refine va_last hx hbb hK hP hD hS q0 1 he rfl (iI_in hin.1 hin.2.2 hin.2.1) hdg (fun H1 locs1 hP1 hD1 hS1 => ?_)
  rw [iI_cl hin.1 hin.2.2, uZ_l] at hP1 hD1
  exact kk H1 locs1 ls hP1 hD1 hS1 hl
theorem g_zast (hX : gOK X cc own l E rm nL) {a n : Nat} {f : Nat → Int} {i x : Int} (q0 : Nat) (he : ws[q0]? = some (a, aZ E n f)) (hin : 0 ≤ i ∧ i < n ∧ i < 2147483648) (hb : x = 0 ∨ x = 1) (hdg : decode cc pc = .ok (.bastore, 1)) (kk : gW X (ws.set q0 (a, aZ E n (uZ f i.toNat x))) cells slots (pc + 1) lv st) : gW X ws cells slots pc lv (.int (iI x) :: .int (iI i) :: .ref a :: st) := by
  obtain ⟨p, l', e, R, s, m, args, below, meth, c, A, nL', Q, E'⟩ := X
  obtain ⟨rfl, rfl, rfl, rfl, hx, hbb, hml, hown, hts, hK, hN, hA⟩ := hX
  intro H locs ls hP hD hS hl
  have hnr : vp_nar .boolean (iI x) = iI x := by rcases hb with rfl | rfl <;> rfl
  refine va_zast hx hbb hK hP hD hS q0 2 he rfl (iI_in hin.1 hin.2.2 hin.2.1) hdg (fun H1 locs1 hP1 hD1 hS1 => ?_)
  rw [hnr, iI_cl hin.1 hin.2.2, uZ_i] at hP1 hD1
  exact kk H1 locs1 ls hP1 hD1 hS1 hl
theorem g_alenI (hX : gOK X cc own l E rm nL) {a n : Nat} {f : Nat → Int} (q0 : Nat) (he : ws[q0]? = some (a, aI E n f)) (hdg : decode cc pc = .ok (.arraylength, 1)) (kk : gW X ws cells slots (pc + 1) lv (.int (iI n) :: st)) : gW X ws cells slots pc lv (.ref a :: st) := by
  obtain ⟨p, l', e, R, s, m, args, below, meth, c, A, nL', Q, E'⟩ := X
  obtain ⟨rfl, rfl, rfl, rfl, hx, hbb, hml, hown, hts, hK, hN, hA⟩ := hX
  intro H locs ls hP hD hS hl
  exact va_alen hx hbb hK hP q0 0 he (ty := .int) rfl (iI_nat n) hdg (kk H locs ls hP hD hS hl)
theorem g_alenL (hX : gOK X cc own l E rm nL) {a n : Nat} {f : Nat → Int} (q0 : Nat) (he : ws[q0]? = some (a, aL E n f)) (hdg : decode cc pc = .ok (.arraylength, 1)) (kk : gW X ws cells slots (pc + 1) lv (.int (iI n) :: st)) : gW X ws cells slots pc lv (.ref a :: st) := by
  obtain ⟨p, l', e, R, s, m, args, below, meth, c, A, nL', Q, E'⟩ := X
  obtain ⟨rfl, rfl, rfl, rfl, hx, hbb, hml, hown, hts, hK, hN, hA⟩ := hX
  intro H locs ls hP hD hS hl
  exact va_alen hx hbb hK hP q0 1 he (ty := .long) rfl (iI_nat n) hdg (kk H locs ls hP hD hS hl)
theorem g_alenZ (hX : gOK X cc own l E rm nL) {a n : Nat} {f : Nat → Int} (q0 : Nat) (he : ws[q0]? = some (a, aZ E n f)) (hdg : decode cc pc = .ok (.arraylength, 1)) (kk : gW X ws cells slots (pc + 1) lv (.int (iI n) :: st)) : gW X ws cells slots pc lv (.ref a :: st) := by
  obtain ⟨p, l', e, R, s, m, args, below, meth, c, A, nL', Q, E'⟩ := X
  obtain ⟨rfl, rfl, rfl, rfl, hx, hbb, hml, hown, hts, hK, hN, hA⟩ := hX
  intro H locs ls hP hD hS hl
  exact va_alen hx hbb hK hP q0 2 he (ty := .boolean) rfl (iI_nat n) hdg (kk H locs ls hP hD hS hl)
end GH
