abbrev gE : Type := va_G × ClassId × ClassId × ClassId
abbrev gtys (E : gE) : List (ClassId × FieldType) := [(E.2.1, .int), (E.2.2.1, .long), (E.2.2.2, .boolean)]
abbrev gC : Type := Program × Launch × Env × Room × State × MethodId × Array Value × List Frame × Method × Code × (Nat → Prop) × Nat × (State → Prop) × gE
def gW : gC → va_W → Nat → Nat → Nat → List (Nat × Value) → List Value → Prop
  | (p, l, e, R, s, m, args, below, meth, c, A, nL, Q, E), ws, cells, slots, pc, lv, st => ∀ (H : Heap) (locs : List Loc) (ls : Array Slot), va_P E.1 vwCl ws H → va_D A ws → va_S A s.heap H locs → lv_has ls nL lv → W p l e R s m args below meth c H locs cells slots Q (F0 m pc ls st)
def gOK : gC → ByteArray → String → Launch → gE → Room → Nat → Prop
  | (p, l', e, R, s, m, args, below, meth, c, A, nL', Q, E'), cc, own, l, E, rm, nL => l' = l ∧ E' = E ∧ R = rm ∧ nL' = nL ∧ p.tables.exec = Jvm.exec ∧ c.code = cc ∧ c.maxLocals = nL ∧ s.vm.findClass own = some m.cls ∧ (∀ w ∈ gTB, w.before args s = true) ∧ va_K E.1 vwCl (gtys E) s ∧ (∀ w ∈ gNW, va_Nw w s) ∧ ∀ q, s.heap.size ≤ q → A q
/-- locals -/
def gLong : Value → Bool
  | .long _ => true
  | .double _ => true
  | _ => false
theorem gLong_cat (v : Value) : gLong v = (v.category == 2) := by cases v <;> rfl
def gGet : List (Nat × Value) → Nat → Option Value
  | [], _ => none
  | (j, v) :: r, i => cond (Nat.beq j i) (some v) (gGet r i)
theorem gGet_mem : ∀ {lv : List (Nat × Value)} {i : Nat} {v : Value}, gGet lv i = some v → (i, v) ∈ lv
  | [], _, _, h => by cases h
  | (j, u) :: r, i, v, h => by
    unfold gGet at h
    cases hb : Nat.beq j i with
    | true =>
      rw [hb] at h
      have e := Nat.eq_of_beq_eq_true hb
      subst e
      cases h
      exact List.mem_cons_self
    | false =>
      rw [hb] at h
      exact List.mem_cons_of_mem _ (gGet_mem h)
theorem gGet_at {ls : Array Slot} {n : Nat} {lv : List (Nat × Value)} {i : Nat} {v : Value} (h : lv_has ls n lv) (hg : gGet lv i = some v) : ls[i]? = some (.val v) := h.2.2 (i, v) (gGet_mem hg)
theorem gbq (a b : Nat) : (a == b) = Nat.beq a b := by
  cases h : Nat.beq a b with
  | true =>
    have e := Nat.eq_of_beq_eq_true h
    subst e
    simp
  | false =>
    have e := Nat.ne_of_beq_eq_false h
    simpa using e
def gDel : List (Nat × Value) → Nat → List (Nat × Value)
  | [], _ => []
  | (j, v) :: r, i => cond (Nat.beq j i) (gDel r i) (cond (Nat.beq (j + 1) i && gLong v) (gDel r i) ((j, v) :: gDel r i))
theorem gDel_mem : ∀ {lv : List (Nat × Value)} {i : Nat} {q : Nat × Value}, q ∈ gDel lv i → q ∈ lv.filter (fun q => !(q.1 == i) && !(q.1 + 1 == i && q.2.category == 2))
  | [], _, _, h => by cases h
  | (j, u) :: r, i, q, h => by
    unfold gDel at h
    rw [List.mem_filter]
    cases hb : Nat.beq j i with
    | true =>
      rw [hb] at h
      have := List.mem_filter.mp (gDel_mem h)
      exact ⟨List.mem_cons_of_mem _ this.1, this.2⟩
    | false =>
      rw [hb] at h
      cases hc : (Nat.beq (j + 1) i && gLong u) with
      | true =>
        rw [hc] at h
        have := List.mem_filter.mp (gDel_mem h)
        exact ⟨List.mem_cons_of_mem _ this.1, this.2⟩
      | false =>
        rw [hc] at h
        rcases List.mem_cons.mp h with h | h
        · subst h
          refine ⟨List.mem_cons_self, ?_⟩
          have e1 : (j == i) = false := (gbq j i).trans hb
          rw [gLong_cat] at hc
          have e2 : ((j + 1 == i) && (u.category == 2)) = false := by rw [gbq]; exact hc
          show (!(j == i) && !((j + 1 == i) && (u.category == 2))) = true
          rw [e1, e2]; rfl
        · have := List.mem_filter.mp (gDel_mem h)
          exact ⟨List.mem_cons_of_mem _ this.1, this.2⟩
def gDel2 (lv : List (Nat × Value)) (i : Nat) : List (Nat × Value) := gDel (gDel lv (i + 1)) i
theorem lv_less {ls : Array Slot} {n : Nat} {l l' : List (Nat × Value)} (h : lv_has ls n l) (hs : ∀ q ∈ l', q ∈ l) : lv_has ls n l' := ⟨h.1, h.2.1, fun q hq => h.2.2 q (hs q hq)⟩
theorem gSt1 {ls : Array Slot} {n i : Nat} {lv : List (Nat × Value)} {v : Value} (h : lv_has ls n ((i, v) :: lv.filter (fun q => !(q.1 == i) && !(q.1 + 1 == i && q.2.category == 2)))) : lv_has ls n ((i, v) :: gDel lv i) := by
  refine lv_less h fun q hq => ?_
  rcases List.mem_cons.mp hq with hq | hq
  · exact hq ▸ List.mem_cons_self
  · exact List.mem_cons_of_mem _ (gDel_mem hq)
theorem gSt2 {ls : Array Slot} {n i : Nat} {lv : List (Nat × Value)} {v : Value} (h : lv_has ls n ((i, v) :: lv.filter (fun q => !(q.1 == i) && (!(q.1 == i + 1) && !(q.1 + 1 == i && q.2.category == 2))))) : lv_has ls n ((i, v) :: gDel2 lv i) := by
  refine lv_less h fun q hq => ?_
  rcases List.mem_cons.mp hq with hq | hq
  · exact hq ▸ List.mem_cons_self
  · have h1 := List.mem_filter.mp (gDel_mem hq)
    have h2 := List.mem_filter.mp (gDel_mem h1.1)
    refine List.mem_cons_of_mem _ (List.mem_filter.mpr ⟨h2.1, ?_⟩)
    have a1 := h1.2
    have a2 := h2.2
    simp only [Bool.and_eq_true] at a1 a2 ⊢
    exact ⟨a1.1, a2.1, a1.2⟩
def gSub (lv : List (Nat × Value)) : List (Nat × Value) → Prop
  | [] => True
  | (i, v) :: r => gGet lv i = some v ∧ gSub lv r
theorem gSub_mem {lv : List (Nat × Value)} : ∀ {l : List (Nat × Value)}, gSub lv l → ∀ q ∈ l, q ∈ lv
  | [], _, _, h => by cases h
  | (i, v) :: r, h, q, hq => by
    rcases List.mem_cons.mp hq with hq | hq
    · subst hq; exact gGet_mem h.1
    · exact gSub_mem h.2 q hq
section GG
variable {X : gC} {cc : ByteArray} {own : String} {l : Launch} {E : gE} {rm : Room} {nL : Nat} {ws : va_W} {cells slots pc : Nat} {lv : List (Nat × Value)} {st : List Value}
theorem g_lv (lv' : List (Nat × Value)) (h : gSub lv lv') (kk : gW X ws cells slots pc lv' st) : gW X ws cells slots pc lv st := by
  obtain ⟨p, l, e, R, s, m, args, below, meth, c, A, nL, Q, E⟩ := X
  intro H locs ls hP hD hS hl
  exact kk H locs ls hP hD hS (lv_less hl (gSub_mem h))
theorem g_wide {k n : Nat} (h1 : cells ≤ k) (h2 : slots ≤ n) (kk : gW X ws k n pc lv st) : gW X ws cells slots pc lv st := by
  obtain ⟨p, l, e, R, s, m, args, below, meth, c, A, nL, Q, E⟩ := X
  intro H locs ls hP hD hS hl
  exact W.widen h1 h2 (kk H locs ls hP hD hS hl)
theorem g_sub (ws' : va_W) (is : List Nat) (hn : va_nd is = true) (hs : is.map (fun i => ws[i]?) = ws'.map some) (kk : gW X ws' cells slots pc lv st) : gW X ws cells slots pc lv st := by
  obtain ⟨p, l, e, R, s, m, args, below, meth, c, A, nL, Q, E⟩ := X
  intro H locs ls hP hD hS hl
  refine kk H locs ls (hP.sub is ?_) (hD.sub is hn hs) hS hl
  have : ∀ (is : List Nat) (w : va_W), is.map (fun i => ws[i]?) = w.map some → is.filterMap (fun i => ws[i]?) = w := by
    intro is
    induction is with
    | nil => intro w h; cases w with | nil => rfl | cons a b => cases h
    | cons i is ih =>
      intro w h
      cases w with
      | nil => cases h
      | cons a b =>
        simp only [List.map_cons, List.cons.injEq] at h
        rw [List.filterMap_cons, h.1, ih b h.2]
  exact this is ws' hs

theorem g_iconst (hX : gOK X cc own l E rm nL) {n : Int} (hdg : decode cc pc = .ok (.iconst n, 1))  (kk : gW X ws cells slots (pc + 1) lv (.int (iI n) :: st)) : gW X ws cells slots pc lv (st) := by
  obtain ⟨p, l', e, R, s, m, args, below, meth, c, A, nL', Q, E'⟩ := X
  obtain ⟨rfl, rfl, rfl, rfl, hx, hbb, hml, hown, hts, hK, hN, hA⟩ := hX
  intro H locs ls hP hD hS hl
  exact lv_iconst hx hbb hdg rfl (kk H locs ls hP hD hS hl)

theorem g_bipush (hX : gOK X cc own l E rm nL) {n : Int} (v : Int) (hdg : decode cc pc = .ok (.bipush n, 2)) (hv : (Int8.ofInt n).toInt32 = iI v) (kk : gW X ws cells slots (pc + 2) lv (.int (iI v) :: st)) : gW X ws cells slots pc lv (st) := by
  obtain ⟨p, l', e, R, s, m, args, below, meth, c, A, nL', Q, E'⟩ := X
  obtain ⟨rfl, rfl, rfl, rfl, hx, hbb, hml, hown, hts, hK, hN, hA⟩ := hX
  intro H locs ls hP hD hS hl
  exact lv_bipush hx hbb hdg hv (kk H locs ls hP hD hS hl)

theorem g_sipush (hX : gOK X cc own l E rm nL) {n : Int} (v : Int) (hdg : decode cc pc = .ok (.sipush n, 3)) (hv : (Int16.ofInt n).toInt32 = iI v) (kk : gW X ws cells slots (pc + 3) lv (.int (iI v) :: st)) : gW X ws cells slots pc lv (st) := by
  obtain ⟨p, l', e, R, s, m, args, below, meth, c, A, nL', Q, E'⟩ := X
  obtain ⟨rfl, rfl, rfl, rfl, hx, hbb, hml, hown, hts, hK, hN, hA⟩ := hX
  intro H locs ls hP hD hS hl
  exact lv_sipush hx hbb hdg hv (kk H locs ls hP hD hS hl)

theorem g_lconst (hX : gOK X cc own l E rm nL) {n : Fin 2} (v : Int) (hdg : decode cc pc = .ok (.lconst n, 1)) (hv : Int64.ofNat (n : Nat) = lI v) (kk : gW X ws cells slots (pc + 1) lv (.long (lI v) :: st)) : gW X ws cells slots pc lv (st) := by
  obtain ⟨p, l', e, R, s, m, args, below, meth, c, A, nL', Q, E'⟩ := X
  obtain ⟨rfl, rfl, rfl, rfl, hx, hbb, hml, hown, hts, hK, hN, hA⟩ := hX
  intro H locs ls hP hD hS hl
  exact lv_lconst hx hbb hdg hv (kk H locs ls hP hD hS hl)

theorem g_iload_n (hX : gOK X cc own l E rm nL) (i : Nat) {k : Fin 4} {x : Int32} (hdg : decode cc pc = .ok (.iload_n k, 1)) (hi : (k : Nat) = i) (hg : gGet lv i = some (.int x)) (kk : gW X ws cells slots (pc + 1) lv (.int x :: st)) : gW X ws cells slots pc lv (st) := by
  obtain ⟨p, l', e, R, s, m, args, below, meth, c, A, nL', Q, E'⟩ := X
  obtain ⟨rfl, rfl, rfl, rfl, hx, hbb, hml, hown, hts, hK, hN, hA⟩ := hX
  intro H locs ls hP hD hS hl
  exact lv_iload_n hx hbb hdg hi (gGet_at hl hg) (kk H locs ls hP hD hS hl)

theorem g_iload (hX : gOK X cc own l E rm nL) {i : Nat} {x : Int32} (hdg : decode cc pc = .ok (.iload i, 2)) (hg : gGet lv i = some (.int x)) (kk : gW X ws cells slots (pc + 2) lv (.int x :: st)) : gW X ws cells slots pc lv (st) := by
  obtain ⟨p, l', e, R, s, m, args, below, meth, c, A, nL', Q, E'⟩ := X
  obtain ⟨rfl, rfl, rfl, rfl, hx, hbb, hml, hown, hts, hK, hN, hA⟩ := hX
  intro H locs ls hP hD hS hl
  exact lv_iload hx hbb hdg (gGet_at hl hg) (kk H locs ls hP hD hS hl)

theorem g_istore_n (hX : gOK X cc own l E rm nL) (i : Nat) {k : Fin 4} {x : Int32} (hdg : decode cc pc = .ok (.istore_n k, 1)) (hi : (k : Nat) = i) (hlt : i < nL) (kk : gW X ws cells slots (pc + 1) ((i, .int x) :: gDel lv i) st) : gW X ws cells slots pc lv (.int x :: st) := by
  obtain ⟨p, l', e, R, s, m, args, below, meth, c, A, nL', Q, E'⟩ := X
  obtain ⟨rfl, rfl, rfl, rfl, hx, hbb, hml, hown, hts, hK, hN, hA⟩ := hX
  intro H locs ls hP hD hS hl
  exact lv_istore_n hx hbb hdg hi hl hlt rfl (fun ls' hl' => kk H locs ls' hP hD hS (gSt1 hl'))
theorem g_istore (hX : gOK X cc own l E rm nL) {i : Nat} {x : Int32} (hdg : decode cc pc = .ok (.istore i, 2)) (hlt : i < nL) (kk : gW X ws cells slots (pc + 2) ((i, .int x) :: gDel lv i) st) : gW X ws cells slots pc lv (.int x :: st) := by
  obtain ⟨p, l', e, R, s, m, args, below, meth, c, A, nL', Q, E'⟩ := X
  obtain ⟨rfl, rfl, rfl, rfl, hx, hbb, hml, hown, hts, hK, hN, hA⟩ := hX
  intro H locs ls hP hD hS hl
  exact lv_istore hx hbb hdg hl hlt rfl (fun ls' hl' => kk H locs ls' hP hD hS (gSt1 hl'))

theorem g_lload_n (hX : gOK X cc own l E rm nL) (i : Nat) {k : Fin 4} {x : Int64} (hdg : decode cc pc = .ok (.lload_n k, 1)) (hi : (k : Nat) = i) (hg : gGet lv i = some (.long x)) (kk : gW X ws cells slots (pc + 1) lv (.long x :: st)) : gW X ws cells slots pc lv (st) := by
  obtain ⟨p, l', e, R, s, m, args, below, meth, c, A, nL', Q, E'⟩ := X
  obtain ⟨rfl, rfl, rfl, rfl, hx, hbb, hml, hown, hts, hK, hN, hA⟩ := hX
  intro H locs ls hP hD hS hl
  exact lv_lload_n hx hbb hdg hi (gGet_at hl hg) (kk H locs ls hP hD hS hl)

theorem g_lload (hX : gOK X cc own l E rm nL) {i : Nat} {x : Int64} (hdg : decode cc pc = .ok (.lload i, 2)) (hg : gGet lv i = some (.long x)) (kk : gW X ws cells slots (pc + 2) lv (.long x :: st)) : gW X ws cells slots pc lv (st) := by
  obtain ⟨p, l', e, R, s, m, args, below, meth, c, A, nL', Q, E'⟩ := X
  obtain ⟨rfl, rfl, rfl, rfl, hx, hbb, hml, hown, hts, hK, hN, hA⟩ := hX
  intro H locs ls hP hD hS hl
  exact lv_lload hx hbb hdg (gGet_at hl hg) (kk H locs ls hP hD hS hl)

theorem g_lstore_n (hX : gOK X cc own l E rm nL) (i : Nat) {k : Fin 4} {x : Int64} (hdg : decode cc pc = .ok (.lstore_n k, 1)) (hi : (k : Nat) = i) (hlt : i + 1 < nL) (kk : gW X ws cells slots (pc + 1) ((i, .long x) :: gDel2 lv i) st) : gW X ws cells slots pc lv (.long x :: st) := by
  obtain ⟨p, l', e, R, s, m, args, below, meth, c, A, nL', Q, E'⟩ := X
  obtain ⟨rfl, rfl, rfl, rfl, hx, hbb, hml, hown, hts, hK, hN, hA⟩ := hX
  intro H locs ls hP hD hS hl
  exact lv_lstore_n hx hbb hdg hi hl hlt rfl (fun ls' hl' => kk H locs ls' hP hD hS (gSt2 hl'))
theorem g_lstore (hX : gOK X cc own l E rm nL) {i : Nat} {x : Int64} (hdg : decode cc pc = .ok (.lstore i, 2)) (hlt : i + 1 < nL) (kk : gW X ws cells slots (pc + 2) ((i, .long x) :: gDel2 lv i) st) : gW X ws cells slots pc lv (.long x :: st) := by
  obtain ⟨p, l', e, R, s, m, args, below, meth, c, A, nL', Q, E'⟩ := X
  obtain ⟨rfl, rfl, rfl, rfl, hx, hbb, hml, hown, hts, hK, hN, hA⟩ := hX
  intro H locs ls hP hD hS hl
  exact lv_lstore hx hbb hdg hl hlt rfl (fun ls' hl' => kk H locs ls' hP hD hS (gSt2 hl'))

theorem g_aload_n (hX : gOK X cc own l E rm nL) (i : Nat) {k : Fin 4} {x : Nat} (hdg : decode cc pc = .ok (.aload_n k, 1)) (hi : (k : Nat) = i) (hg : gGet lv i = some (.ref x)) (kk : gW X ws cells slots (pc + 1) lv (.ref x :: st)) : gW X ws cells slots pc lv (st) := by
  obtain ⟨p, l', e, R, s, m, args, below, meth, c, A, nL', Q, E'⟩ := X
  obtain ⟨rfl, rfl, rfl, rfl, hx, hbb, hml, hown, hts, hK, hN, hA⟩ := hX
  intro H locs ls hP hD hS hl
  exact lv_aload_n hx hbb hdg hi (gGet_at hl hg) (kk H locs ls hP hD hS hl)

theorem g_aload (hX : gOK X cc own l E rm nL) {i : Nat} {x : Nat} (hdg : decode cc pc = .ok (.aload i, 2)) (hg : gGet lv i = some (.ref x)) (kk : gW X ws cells slots (pc + 2) lv (.ref x :: st)) : gW X ws cells slots pc lv (st) := by
  obtain ⟨p, l', e, R, s, m, args, below, meth, c, A, nL', Q, E'⟩ := X
  obtain ⟨rfl, rfl, rfl, rfl, hx, hbb, hml, hown, hts, hK, hN, hA⟩ := hX
  intro H locs ls hP hD hS hl
  exact lv_aload hx hbb hdg (gGet_at hl hg) (kk H locs ls hP hD hS hl)

theorem g_astore_n (hX : gOK X cc own l E rm nL) (i : Nat) {k : Fin 4} {x : Nat} (hdg : decode cc pc = .ok (.astore_n k, 1)) (hi : (k : Nat) = i) (hlt : i < nL) (kk : gW X ws cells slots (pc + 1) ((i, .ref x) :: gDel lv i) st) : gW X ws cells slots pc lv (.ref x :: st) := by
  obtain ⟨p, l', e, R, s, m, args, below, meth, c, A, nL', Q, E'⟩ := X
  obtain ⟨rfl, rfl, rfl, rfl, hx, hbb, hml, hown, hts, hK, hN, hA⟩ := hX
  intro H locs ls hP hD hS hl
  exact lv_astore_n hx hbb hdg hi hl hlt rfl (fun ls' hl' => kk H locs ls' hP hD hS (gSt1 hl'))
theorem g_astore (hX : gOK X cc own l E rm nL) {i : Nat} {x : Nat} (hdg : decode cc pc = .ok (.astore i, 2)) (hlt : i < nL) (kk : gW X ws cells slots (pc + 2) ((i, .ref x) :: gDel lv i) st) : gW X ws cells slots pc lv (.ref x :: st) := by
  obtain ⟨p, l', e, R, s, m, args, below, meth, c, A, nL', Q, E'⟩ := X
  obtain ⟨rfl, rfl, rfl, rfl, hx, hbb, hml, hown, hts, hK, hN, hA⟩ := hX
  intro H locs ls hP hD hS hl
  exact lv_astore hx hbb hdg hl hlt rfl (fun ls' hl' => kk H locs ls' hP hD hS (gSt1 hl'))

theorem g_iinc (hX : gOK X cc own l E rm nL) {i : Nat} {n a : Int} (hdg : decode cc pc = .ok (.iinc i n, 3)) (hlt : i < nL) (hg : gGet lv i = some (.int (iI a))) (kk : gW X ws cells slots (pc + 3) ((i, .int (iI (a + n))) :: gDel lv i) st) : gW X ws cells slots pc lv st := by
  obtain ⟨p, l', e, R, s, m, args, below, meth, c, A, nL', Q, E'⟩ := X
  obtain ⟨rfl, rfl, rfl, rfl, hx, hbb, hml, hown, hts, hK, hN, hA⟩ := hX
  intro H locs ls hP hD hS hl
  obtain ⟨k, hk⟩ := List.getElem?_of_mem (gGet_mem hg)
  exact lv_iinc hx hbb hdg hl hk (v := iI (a + n)) (iI_add a n) hlt rfl (fun ls' hl' => kk H locs ls' hP hD hS (gSt1 hl'))

theorem g_iadd (hX : gOK X cc own l E rm nL) {a b : Int} (hdg : decode cc pc = .ok (.iadd, 1))  (kk : gW X ws cells slots (pc + 1) lv (.int (iI (a + b)) :: st)) : gW X ws cells slots pc lv (.int (iI b) :: .int (iI a) :: st) := by
  obtain ⟨p, l', e, R, s, m, args, below, meth, c, A, nL', Q, E'⟩ := X
  obtain ⟨rfl, rfl, rfl, rfl, hx, hbb, hml, hown, hts, hK, hN, hA⟩ := hX
  intro H locs ls hP hD hS hl
  exact lv_iadd hx hbb hdg (by rw [iI_add]; exact (kk H locs ls hP hD hS hl))

theorem g_ladd (hX : gOK X cc own l E rm nL) {a b : Int} (hdg : decode cc pc = .ok (.ladd, 1))  (kk : gW X ws cells slots (pc + 1) lv (.long (lI (a + b)) :: st)) : gW X ws cells slots pc lv (.long (lI b) :: .long (lI a) :: st) := by
  obtain ⟨p, l', e, R, s, m, args, below, meth, c, A, nL', Q, E'⟩ := X
  obtain ⟨rfl, rfl, rfl, rfl, hx, hbb, hml, hown, hts, hK, hN, hA⟩ := hX
  intro H locs ls hP hD hS hl
  exact lv_ladd hx hbb hdg (by rw [lI_add]; exact (kk H locs ls hP hD hS hl))

theorem g_isub (hX : gOK X cc own l E rm nL) {a b : Int} (hdg : decode cc pc = .ok (.isub, 1))  (kk : gW X ws cells slots (pc + 1) lv (.int (iI (a - b)) :: st)) : gW X ws cells slots pc lv (.int (iI b) :: .int (iI a) :: st) := by
  obtain ⟨p, l', e, R, s, m, args, below, meth, c, A, nL', Q, E'⟩ := X
  obtain ⟨rfl, rfl, rfl, rfl, hx, hbb, hml, hown, hts, hK, hN, hA⟩ := hX
  intro H locs ls hP hD hS hl
  exact lv_isub hx hbb hdg (by rw [iI_sub]; exact (kk H locs ls hP hD hS hl))

theorem g_lsub (hX : gOK X cc own l E rm nL) {a b : Int} (hdg : decode cc pc = .ok (.lsub, 1))  (kk : gW X ws cells slots (pc + 1) lv (.long (lI (a - b)) :: st)) : gW X ws cells slots pc lv (.long (lI b) :: .long (lI a) :: st) := by
  obtain ⟨p, l', e, R, s, m, args, below, meth, c, A, nL', Q, E'⟩ := X
  obtain ⟨rfl, rfl, rfl, rfl, hx, hbb, hml, hown, hts, hK, hN, hA⟩ := hX
  intro H locs ls hP hD hS hl
  exact lv_lsub hx hbb hdg (by rw [lI_sub]; exact (kk H locs ls hP hD hS hl))

theorem g_imul (hX : gOK X cc own l E rm nL) {a b : Int} (hdg : decode cc pc = .ok (.imul, 1))  (kk : gW X ws cells slots (pc + 1) lv (.int (iI (a * b)) :: st)) : gW X ws cells slots pc lv (.int (iI b) :: .int (iI a) :: st) := by
  obtain ⟨p, l', e, R, s, m, args, below, meth, c, A, nL', Q, E'⟩ := X
  obtain ⟨rfl, rfl, rfl, rfl, hx, hbb, hml, hown, hts, hK, hN, hA⟩ := hX
  intro H locs ls hP hD hS hl
  exact lv_imul hx hbb hdg (by rw [iI_mul]; exact (kk H locs ls hP hD hS hl))

theorem g_lmul (hX : gOK X cc own l E rm nL) {a b : Int} (hdg : decode cc pc = .ok (.lmul, 1))  (kk : gW X ws cells slots (pc + 1) lv (.long (lI (a * b)) :: st)) : gW X ws cells slots pc lv (.long (lI b) :: .long (lI a) :: st) := by
  obtain ⟨p, l', e, R, s, m, args, below, meth, c, A, nL', Q, E'⟩ := X
  obtain ⟨rfl, rfl, rfl, rfl, hx, hbb, hml, hown, hts, hK, hN, hA⟩ := hX
  intro H locs ls hP hD hS hl
  exact lv_lmul hx hbb hdg (by rw [lI_mul]; exact (kk H locs ls hP hD hS hl))

theorem g_i2l (hX : gOK X cc own l E rm nL) {a : Int} (hdg : decode cc pc = .ok (.i2l, 1)) (ha : gin a) (kk : gW X ws cells slots (pc + 1) lv (.long (lI a) :: st)) : gW X ws cells slots pc lv (.int (iI a) :: st) := by
  obtain ⟨p, l', e, R, s, m, args, below, meth, c, A, nL', Q, E'⟩ := X
  obtain ⟨rfl, rfl, rfl, rfl, hx, hbb, hml, hown, hts, hK, hN, hA⟩ := hX
  intro H locs ls hP hD hS hl
  exact lv_i2l hx hbb hdg (iI_l ha) (kk H locs ls hP hD hS hl)

theorem g_l2i (hX : gOK X cc own l E rm nL) {a : Int} (hdg : decode cc pc = .ok (.l2i, 1))  (kk : gW X ws cells slots (pc + 1) lv (.int (iI a) :: st)) : gW X ws cells slots pc lv (.long (lI a) :: st) := by
  obtain ⟨p, l', e, R, s, m, args, below, meth, c, A, nL', Q, E'⟩ := X
  obtain ⟨rfl, rfl, rfl, rfl, hx, hbb, hml, hown, hts, hK, hN, hA⟩ := hX
  intro H locs ls hP hD hS hl
  exact lv_l2i hx hbb hdg (lI_i a) (kk H locs ls hP hD hS hl)

theorem g_dup (hX : gOK X cc own l E rm nL) {va : Value} (hdg : decode cc pc = .ok (.dup, 1)) (hva : va.category = 1) (kk : gW X ws cells slots (pc + 1) lv (va :: va :: st)) : gW X ws cells slots pc lv (va :: st) := by
  obtain ⟨p, l', e, R, s, m, args, below, meth, c, A, nL', Q, E'⟩ := X
  obtain ⟨rfl, rfl, rfl, rfl, hx, hbb, hml, hown, hts, hK, hN, hA⟩ := hX
  intro H locs ls hP hD hS hl
  exact lv_dup hx hbb hdg hva (kk H locs ls hP hD hS hl)

theorem g_dup_x1 (hX : gOK X cc own l E rm nL) {va vb : Value} (hdg : decode cc pc = .ok (.dup_x1, 1)) (hva : va.category = 1) (hvb : vb.category = 1) (kk : gW X ws cells slots (pc + 1) lv (va :: vb :: va :: st)) : gW X ws cells slots pc lv (va :: vb :: st) := by
  obtain ⟨p, l', e, R, s, m, args, below, meth, c, A, nL', Q, E'⟩ := X
  obtain ⟨rfl, rfl, rfl, rfl, hx, hbb, hml, hown, hts, hK, hN, hA⟩ := hX
  intro H locs ls hP hD hS hl
  exact lv_dup_x1 hx hbb hdg hva hvb (kk H locs ls hP hD hS hl)

theorem g_pop (hX : gOK X cc own l E rm nL) {va : Value} (hdg : decode cc pc = .ok (.pop, 1)) (hva : va.category = 1) (kk : gW X ws cells slots (pc + 1) lv (st)) : gW X ws cells slots pc lv (va :: st) := by
  obtain ⟨p, l', e, R, s, m, args, below, meth, c, A, nL', Q, E'⟩ := X
  obtain ⟨rfl, rfl, rfl, rfl, hx, hbb, hml, hown, hts, hK, hN, hA⟩ := hX
  intro H locs ls hP hD hS hl
  exact lv_pop hx hbb hdg hva (kk H locs ls hP hD hS hl)

theorem g_land (hX : gOK X cc own l E rm nL) {a b : Int} (r : Int) (hdg : decode cc pc = .ok (.land, 1)) (hv : lI a &&& lI b = lI r) (kk : gW X ws cells slots (pc + 1) lv (.long (lI r) :: st)) : gW X ws cells slots pc lv (.long (lI b) :: .long (lI a) :: st) := by
  obtain ⟨p, l', e, R, s, m, args, below, meth, c, A, nL', Q, E'⟩ := X
  obtain ⟨rfl, rfl, rfl, rfl, hx, hbb, hml, hown, hts, hK, hN, hA⟩ := hX
  intro H locs ls hP hD hS hl
  exact lv_land hx hbb hdg (by rw [hv]; exact (kk H locs ls hP hD hS hl))

theorem g_lor (hX : gOK X cc own l E rm nL) {a b : Int} (r : Int) (hdg : decode cc pc = .ok (.lor, 1)) (hv : lI a ||| lI b = lI r) (kk : gW X ws cells slots (pc + 1) lv (.long (lI r) :: st)) : gW X ws cells slots pc lv (.long (lI b) :: .long (lI a) :: st) := by
  obtain ⟨p, l', e, R, s, m, args, below, meth, c, A, nL', Q, E'⟩ := X
  obtain ⟨rfl, rfl, rfl, rfl, hx, hbb, hml, hown, hts, hK, hN, hA⟩ := hX
  intro H locs ls hP hD hS hl
  exact lv_lor hx hbb hdg (by rw [hv]; exact (kk H locs ls hP hD hS hl))

theorem g_lushr (hX : gOK X cc own l E rm nL) {a b : Int} (r : Int) (hdg : decode cc pc = .ok (.lushr, 1)) (hv : ((lI a).toUInt64 >>> ((iI b).toInt64.toUInt64 &&& Int64.toUInt64 63)).toInt64 = lI r) (kk : gW X ws cells slots (pc + 1) lv (.long (lI r) :: st)) : gW X ws cells slots pc lv (.int (iI b) :: .long (lI a) :: st) := by
  obtain ⟨p, l', e, R, s, m, args, below, meth, c, A, nL', Q, E'⟩ := X
  obtain ⟨rfl, rfl, rfl, rfl, hx, hbb, hml, hown, hts, hK, hN, hA⟩ := hX
  intro H locs ls hP hD hS hl
  exact lv_lushr hx hbb hdg hv (kk H locs ls hP hD hS hl)

theorem g_lshl (hX : gOK X cc own l E rm nL) {a b : Int} (r : Int) (hdg : decode cc pc = .ok (.lshl, 1)) (hv : lI a <<< ((iI b).toInt64 &&& 63) = lI r) (kk : gW X ws cells slots (pc + 1) lv (.long (lI r) :: st)) : gW X ws cells slots pc lv (.int (iI b) :: .long (lI a) :: st) := by
  obtain ⟨p, l', e, R, s, m, args, below, meth, c, A, nL', Q, E'⟩ := X
  obtain ⟨rfl, rfl, rfl, rfl, hx, hbb, hml, hown, hts, hK, hN, hA⟩ := hX
  intro H locs ls hP hD hS hl
  exact lv_lshl hx hbb hdg hv (kk H locs ls hP hD hS hl)

theorem g_lshr (hX : gOK X cc own l E rm nL) {a b : Int} (r : Int) (hdg : decode cc pc = .ok (.lshr, 1)) (hv : lI a >>> ((iI b).toInt64 &&& 63) = lI r) (kk : gW X ws cells slots (pc + 1) lv (.long (lI r) :: st)) : gW X ws cells slots pc lv (.int (iI b) :: .long (lI a) :: st) := by
  obtain ⟨p, l', e, R, s, m, args, below, meth, c, A, nL', Q, E'⟩ := X
  obtain ⟨rfl, rfl, rfl, rfl, hx, hbb, hml, hown, hts, hK, hN, hA⟩ := hX
  intro H locs ls hP hD hS hl
  exact lv_lshr hx hbb hdg hv (kk H locs ls hP hD hS hl)

theorem g_iand (hX : gOK X cc own l E rm nL) {a b : Int} (r : Int) (hdg : decode cc pc = .ok (.iand, 1)) (hv : iI a &&& iI b = iI r) (kk : gW X ws cells slots (pc + 1) lv (.int (iI r) :: st)) : gW X ws cells slots pc lv (.int (iI b) :: .int (iI a) :: st) := by
  obtain ⟨p, l', e, R, s, m, args, below, meth, c, A, nL', Q, E'⟩ := X
  obtain ⟨rfl, rfl, rfl, rfl, hx, hbb, hml, hown, hts, hK, hN, hA⟩ := hX
  intro H locs ls hP hD hS hl
  exact lv_iand hx hbb hdg (by rw [hv]; exact (kk H locs ls hP hD hS hl))

theorem g_idiv (hX : gOK X cc own l E rm nL) {a b : Int} (r : Int) (hdg : decode cc pc = .ok (.idiv, 1)) (hz : ¬ iI b = 0) (hv : iI a / iI b = iI r) (kk : gW X ws cells slots (pc + 1) lv (.int (iI r) :: st)) : gW X ws cells slots pc lv (.int (iI b) :: .int (iI a) :: st) := by
  obtain ⟨p, l', e, R, s, m, args, below, meth, c, A, nL', Q, E'⟩ := X
  obtain ⟨rfl, rfl, rfl, rfl, hx, hbb, hml, hown, hts, hK, hN, hA⟩ := hX
  intro H locs ls hP hD hS hl
  exact lv_idiv hx hbb hdg hz (by rw [hv]; exact (kk H locs ls hP hD hS hl))

theorem g_irem (hX : gOK X cc own l E rm nL) {a b : Int} (r : Int) (hdg : decode cc pc = .ok (.irem, 1)) (hz : ¬ iI b = 0) (hv : iI a - iI a / iI b * iI b = iI r) (kk : gW X ws cells slots (pc + 1) lv (.int (iI r) :: st)) : gW X ws cells slots pc lv (.int (iI b) :: .int (iI a) :: st) := by
  obtain ⟨p, l', e, R, s, m, args, below, meth, c, A, nL', Q, E'⟩ := X
  obtain ⟨rfl, rfl, rfl, rfl, hx, hbb, hml, hown, hts, hK, hN, hA⟩ := hX
  intro H locs ls hP hD hS hl
  exact lv_irem hx hbb hdg hz (by rw [hv]; exact (kk H locs ls hP hD hS hl))

theorem g_goto (hX : gOK X cc own l E rm nL) {off : Int} {tgt : Nat} (hdg : decode cc pc = .ok (.goto off, 3)) (ht : (pc : Int) + off = (tgt : Int)) (kk : gW X ws cells slots tgt lv st) : gW X ws cells slots pc lv st := by
  obtain ⟨p, l', e, R, s, m, args, below, meth, c, A, nL', Q, E'⟩ := X
  obtain ⟨rfl, rfl, rfl, rfl, hx, hbb, hml, hown, hts, hK, hN, hA⟩ := hX
  intro H locs ls hP hD hS hl
  exact lv_goto hx hbb hdg ht (kk H locs ls hP hD hS hl)

theorem g_icmp_eq (hX : gOK X cc own l E rm nL) {a b : Int} {off : Int} {tgt : Nat} (hdg : decode cc pc = .ok (.if_icmp .eq off, 3)) (ht : (pc : Int) + off = (tgt : Int)) (ha : gin a) (hb : gin b) (kt : a = b → gW X ws cells slots tgt lv st) (kf : ¬ (a = b) → gW X ws cells slots (pc + 3) lv st) : gW X ws cells slots pc lv (.int (iI b) :: .int (iI a) :: st) := by
  obtain ⟨p, l', e, R, s, m, args, below, meth, c, A, nL', Q, E'⟩ := X
  obtain ⟨rfl, rfl, rfl, rfl, hx, hbb, hml, hown, hts, hK, hN, hA⟩ := hX
  intro H locs ls hP hD hS hl
  exact lv_icmp_eq hx hbb hdg ht (fun h => kt ((iI_eq ha hb).mp h) H locs ls hP hD hS hl) (fun h => kf (fun q => h ((iI_eq ha hb).mpr q)) H locs ls hP hD hS hl)

theorem g_if_eq (hX : gOK X cc own l E rm nL) {a : Int} {off : Int} {tgt : Nat} (hdg : decode cc pc = .ok (.ifCond .eq off, 3)) (ht : (pc : Int) + off = (tgt : Int)) (ha : gin a) (kt : a = 0 → gW X ws cells slots tgt lv st) (kf : ¬ (a = 0) → gW X ws cells slots (pc + 3) lv st) : gW X ws cells slots pc lv (.int (iI a) :: st) := by
  obtain ⟨p, l', e, R, s, m, args, below, meth, c, A, nL', Q, E'⟩ := X
  obtain ⟨rfl, rfl, rfl, rfl, hx, hbb, hml, hown, hts, hK, hN, hA⟩ := hX
  intro H locs ls hP hD hS hl
  exact lv_if_eq hx hbb hdg ht (fun h => kt ((iI_eq ha (⟨by decide, by decide⟩ : gin 0)).mp h) H locs ls hP hD hS hl) (fun h => kf (fun q => h ((iI_eq ha (⟨by decide, by decide⟩ : gin 0)).mpr q)) H locs ls hP hD hS hl)

theorem g_icmp_ne (hX : gOK X cc own l E rm nL) {a b : Int} {off : Int} {tgt : Nat} (hdg : decode cc pc = .ok (.if_icmp .ne off, 3)) (ht : (pc : Int) + off = (tgt : Int)) (ha : gin a) (hb : gin b) (kt : a ≠ b → gW X ws cells slots tgt lv st) (kf : ¬ (a ≠ b) → gW X ws cells slots (pc + 3) lv st) : gW X ws cells slots pc lv (.int (iI b) :: .int (iI a) :: st) := by
  obtain ⟨p, l', e, R, s, m, args, below, meth, c, A, nL', Q, E'⟩ := X
  obtain ⟨rfl, rfl, rfl, rfl, hx, hbb, hml, hown, hts, hK, hN, hA⟩ := hX
  intro H locs ls hP hD hS hl
  exact lv_icmp_ne hx hbb hdg ht (fun h => kt (fun q => h ((iI_eq ha hb).mpr q)) H locs ls hP hD hS hl) (fun h => kf (fun q => q ((iI_eq ha hb).mp h)) H locs ls hP hD hS hl)

theorem g_if_ne (hX : gOK X cc own l E rm nL) {a : Int} {off : Int} {tgt : Nat} (hdg : decode cc pc = .ok (.ifCond .ne off, 3)) (ht : (pc : Int) + off = (tgt : Int)) (ha : gin a) (kt : a ≠ 0 → gW X ws cells slots tgt lv st) (kf : ¬ (a ≠ 0) → gW X ws cells slots (pc + 3) lv st) : gW X ws cells slots pc lv (.int (iI a) :: st) := by
  obtain ⟨p, l', e, R, s, m, args, below, meth, c, A, nL', Q, E'⟩ := X
  obtain ⟨rfl, rfl, rfl, rfl, hx, hbb, hml, hown, hts, hK, hN, hA⟩ := hX
  intro H locs ls hP hD hS hl
  exact lv_if_ne hx hbb hdg ht (fun h => kt (fun q => h ((iI_eq ha (⟨by decide, by decide⟩ : gin 0)).mpr q)) H locs ls hP hD hS hl) (fun h => kf (fun q => q ((iI_eq ha (⟨by decide, by decide⟩ : gin 0)).mp h)) H locs ls hP hD hS hl)

theorem g_icmp_lt (hX : gOK X cc own l E rm nL) {a b : Int} {off : Int} {tgt : Nat} (hdg : decode cc pc = .ok (.if_icmp .lt off, 3)) (ht : (pc : Int) + off = (tgt : Int)) (ha : gin a) (hb : gin b) (kt : a < b → gW X ws cells slots tgt lv st) (kf : ¬ (a < b) → gW X ws cells slots (pc + 3) lv st) : gW X ws cells slots pc lv (.int (iI b) :: .int (iI a) :: st) := by
  obtain ⟨p, l', e, R, s, m, args, below, meth, c, A, nL', Q, E'⟩ := X
  obtain ⟨rfl, rfl, rfl, rfl, hx, hbb, hml, hown, hts, hK, hN, hA⟩ := hX
  intro H locs ls hP hD hS hl
  exact lv_icmp_lt hx hbb hdg ht (fun h => kt ((iI_lt ha hb).mp h) H locs ls hP hD hS hl) (fun h => kf (fun q => h ((iI_lt ha hb).mpr q)) H locs ls hP hD hS hl)

theorem g_if_lt (hX : gOK X cc own l E rm nL) {a : Int} {off : Int} {tgt : Nat} (hdg : decode cc pc = .ok (.ifCond .lt off, 3)) (ht : (pc : Int) + off = (tgt : Int)) (ha : gin a) (kt : a < 0 → gW X ws cells slots tgt lv st) (kf : ¬ (a < 0) → gW X ws cells slots (pc + 3) lv st) : gW X ws cells slots pc lv (.int (iI a) :: st) := by
  obtain ⟨p, l', e, R, s, m, args, below, meth, c, A, nL', Q, E'⟩ := X
  obtain ⟨rfl, rfl, rfl, rfl, hx, hbb, hml, hown, hts, hK, hN, hA⟩ := hX
  intro H locs ls hP hD hS hl
  exact lv_if_lt hx hbb hdg ht (fun h => kt ((iI_lt ha (⟨by decide, by decide⟩ : gin 0)).mp h) H locs ls hP hD hS hl) (fun h => kf (fun q => h ((iI_lt ha (⟨by decide, by decide⟩ : gin 0)).mpr q)) H locs ls hP hD hS hl)

theorem g_icmp_ge (hX : gOK X cc own l E rm nL) {a b : Int} {off : Int} {tgt : Nat} (hdg : decode cc pc = .ok (.if_icmp .ge off, 3)) (ht : (pc : Int) + off = (tgt : Int)) (ha : gin a) (hb : gin b) (kt : b ≤ a → gW X ws cells slots tgt lv st) (kf : ¬ (b ≤ a) → gW X ws cells slots (pc + 3) lv st) : gW X ws cells slots pc lv (.int (iI b) :: .int (iI a) :: st) := by
  obtain ⟨p, l', e, R, s, m, args, below, meth, c, A, nL', Q, E'⟩ := X
  obtain ⟨rfl, rfl, rfl, rfl, hx, hbb, hml, hown, hts, hK, hN, hA⟩ := hX
  intro H locs ls hP hD hS hl
  exact lv_icmp_ge hx hbb hdg ht (fun h => kt ((iI_le hb ha).mp h) H locs ls hP hD hS hl) (fun h => kf (fun q => h ((iI_le hb ha).mpr q)) H locs ls hP hD hS hl)

theorem g_if_ge (hX : gOK X cc own l E rm nL) {a : Int} {off : Int} {tgt : Nat} (hdg : decode cc pc = .ok (.ifCond .ge off, 3)) (ht : (pc : Int) + off = (tgt : Int)) (ha : gin a) (kt : 0 ≤ a → gW X ws cells slots tgt lv st) (kf : ¬ (0 ≤ a) → gW X ws cells slots (pc + 3) lv st) : gW X ws cells slots pc lv (.int (iI a) :: st) := by
  obtain ⟨p, l', e, R, s, m, args, below, meth, c, A, nL', Q, E'⟩ := X
  obtain ⟨rfl, rfl, rfl, rfl, hx, hbb, hml, hown, hts, hK, hN, hA⟩ := hX
  intro H locs ls hP hD hS hl
  exact lv_if_ge hx hbb hdg ht (fun h => kt ((iI_le (⟨by decide, by decide⟩ : gin 0) ha).mp h) H locs ls hP hD hS hl) (fun h => kf (fun q => h ((iI_le (⟨by decide, by decide⟩ : gin 0) ha).mpr q)) H locs ls hP hD hS hl)

theorem g_icmp_gt (hX : gOK X cc own l E rm nL) {a b : Int} {off : Int} {tgt : Nat} (hdg : decode cc pc = .ok (.if_icmp .gt off, 3)) (ht : (pc : Int) + off = (tgt : Int)) (ha : gin a) (hb : gin b) (kt : b < a → gW X ws cells slots tgt lv st) (kf : ¬ (b < a) → gW X ws cells slots (pc + 3) lv st) : gW X ws cells slots pc lv (.int (iI b) :: .int (iI a) :: st) := by
  obtain ⟨p, l', e, R, s, m, args, below, meth, c, A, nL', Q, E'⟩ := X
  obtain ⟨rfl, rfl, rfl, rfl, hx, hbb, hml, hown, hts, hK, hN, hA⟩ := hX
  intro H locs ls hP hD hS hl
  exact lv_icmp_gt hx hbb hdg ht (fun h => kt ((iI_lt hb ha).mp h) H locs ls hP hD hS hl) (fun h => kf (fun q => h ((iI_lt hb ha).mpr q)) H locs ls hP hD hS hl)

theorem g_if_gt (hX : gOK X cc own l E rm nL) {a : Int} {off : Int} {tgt : Nat} (hdg : decode cc pc = .ok (.ifCond .gt off, 3)) (ht : (pc : Int) + off = (tgt : Int)) (ha : gin a) (kt : 0 < a → gW X ws cells slots tgt lv st) (kf : ¬ (0 < a) → gW X ws cells slots (pc + 3) lv st) : gW X ws cells slots pc lv (.int (iI a) :: st) := by
  obtain ⟨p, l', e, R, s, m, args, below, meth, c, A, nL', Q, E'⟩ := X
  obtain ⟨rfl, rfl, rfl, rfl, hx, hbb, hml, hown, hts, hK, hN, hA⟩ := hX
  intro H locs ls hP hD hS hl
  exact lv_if_gt hx hbb hdg ht (fun h => kt ((iI_lt (⟨by decide, by decide⟩ : gin 0) ha).mp h) H locs ls hP hD hS hl) (fun h => kf (fun q => h ((iI_lt (⟨by decide, by decide⟩ : gin 0) ha).mpr q)) H locs ls hP hD hS hl)

theorem g_icmp_le (hX : gOK X cc own l E rm nL) {a b : Int} {off : Int} {tgt : Nat} (hdg : decode cc pc = .ok (.if_icmp .le off, 3)) (ht : (pc : Int) + off = (tgt : Int)) (ha : gin a) (hb : gin b) (kt : a ≤ b → gW X ws cells slots tgt lv st) (kf : ¬ (a ≤ b) → gW X ws cells slots (pc + 3) lv st) : gW X ws cells slots pc lv (.int (iI b) :: .int (iI a) :: st) := by
  obtain ⟨p, l', e, R, s, m, args, below, meth, c, A, nL', Q, E'⟩ := X
  obtain ⟨rfl, rfl, rfl, rfl, hx, hbb, hml, hown, hts, hK, hN, hA⟩ := hX
  intro H locs ls hP hD hS hl
  exact lv_icmp_le hx hbb hdg ht (fun h => kt ((iI_le ha hb).mp h) H locs ls hP hD hS hl) (fun h => kf (fun q => h ((iI_le ha hb).mpr q)) H locs ls hP hD hS hl)

theorem g_if_le (hX : gOK X cc own l E rm nL) {a : Int} {off : Int} {tgt : Nat} (hdg : decode cc pc = .ok (.ifCond .le off, 3)) (ht : (pc : Int) + off = (tgt : Int)) (ha : gin a) (kt : a ≤ 0 → gW X ws cells slots tgt lv st) (kf : ¬ (a ≤ 0) → gW X ws cells slots (pc + 3) lv st) : gW X ws cells slots pc lv (.int (iI a) :: st) := by
  obtain ⟨p, l', e, R, s, m, args, below, meth, c, A, nL', Q, E'⟩ := X
  obtain ⟨rfl, rfl, rfl, rfl, hx, hbb, hml, hown, hts, hK, hN, hA⟩ := hX
  intro H locs ls hP hD hS hl
  exact lv_if_le hx hbb hdg ht (fun h => kt ((iI_le ha (⟨by decide, by decide⟩ : gin 0)).mp h) H locs ls hP hD hS hl) (fun h => kf (fun q => h ((iI_le ha (⟨by decide, by decide⟩ : gin 0)).mpr q)) H locs ls hP hD hS hl)

theorem g_lcmp_eq (hX : gOK X cc own l E rm nL) {a b : Int} {off : Int} {tgt : Nat} (hdg0 : decode cc pc = .ok (.lcmp, 1)) (hdg : decode cc (pc + 1) = .ok (.ifCond .eq off, 3)) (ht : ((pc + 1 : Nat) : Int) + off = (tgt : Int)) (ha : gil a) (hb : gil b) (kt : a = b → gW X ws cells slots tgt lv st) (kf : ¬ (a = b) → gW X ws cells slots (pc + 1 + 3) lv st) : gW X ws cells slots pc lv (.long (lI b) :: .long (lI a) :: st) := by
  obtain ⟨p, l', e, R, s, m, args, below, meth, c, A, nL', Q, E'⟩ := X
  obtain ⟨rfl, rfl, rfl, rfl, hx, hbb, hml, hown, hts, hK, hN, hA⟩ := hX
  intro H locs ls hP hD hS hl
  refine W.lcmp hx hbb hdg0 ?_
  exact lv_if_eq hx hbb hdg ht (fun h => kt ((lI_eq ha hb).mp ((lg_cmp_eq _ _).mp h)) H locs ls hP hD hS hl) (fun h => kf (fun q => h ((lg_cmp_eq _ _).mpr ((lI_eq ha hb).mpr q))) H locs ls hP hD hS hl)

theorem g_lcmp_ne (hX : gOK X cc own l E rm nL) {a b : Int} {off : Int} {tgt : Nat} (hdg0 : decode cc pc = .ok (.lcmp, 1)) (hdg : decode cc (pc + 1) = .ok (.ifCond .ne off, 3)) (ht : ((pc + 1 : Nat) : Int) + off = (tgt : Int)) (ha : gil a) (hb : gil b) (kt : a ≠ b → gW X ws cells slots tgt lv st) (kf : ¬ (a ≠ b) → gW X ws cells slots (pc + 1 + 3) lv st) : gW X ws cells slots pc lv (.long (lI b) :: .long (lI a) :: st) := by
  obtain ⟨p, l', e, R, s, m, args, below, meth, c, A, nL', Q, E'⟩ := X
  obtain ⟨rfl, rfl, rfl, rfl, hx, hbb, hml, hown, hts, hK, hN, hA⟩ := hX
  intro H locs ls hP hD hS hl
  refine W.lcmp hx hbb hdg0 ?_
  exact lv_if_ne hx hbb hdg ht (fun h => kt (fun q => h ((lg_cmp_eq _ _).mpr ((lI_eq ha hb).mpr q))) H locs ls hP hD hS hl) (fun h => kf (fun q => q ((lI_eq ha hb).mp ((lg_cmp_eq _ _).mp h))) H locs ls hP hD hS hl)

theorem g_lcmp_lt (hX : gOK X cc own l E rm nL) {a b : Int} {off : Int} {tgt : Nat} (hdg0 : decode cc pc = .ok (.lcmp, 1)) (hdg : decode cc (pc + 1) = .ok (.ifCond .lt off, 3)) (ht : ((pc + 1 : Nat) : Int) + off = (tgt : Int)) (ha : gil a) (hb : gil b) (kt : a < b → gW X ws cells slots tgt lv st) (kf : ¬ (a < b) → gW X ws cells slots (pc + 1 + 3) lv st) : gW X ws cells slots pc lv (.long (lI b) :: .long (lI a) :: st) := by
  obtain ⟨p, l', e, R, s, m, args, below, meth, c, A, nL', Q, E'⟩ := X
  obtain ⟨rfl, rfl, rfl, rfl, hx, hbb, hml, hown, hts, hK, hN, hA⟩ := hX
  intro H locs ls hP hD hS hl
  refine W.lcmp hx hbb hdg0 ?_
  exact lv_if_lt hx hbb hdg ht (fun h => kt ((lI_lt ha hb).mp ((lg_cmp_lt _ _).mp h)) H locs ls hP hD hS hl) (fun h => kf (fun q => h ((lg_cmp_lt _ _).mpr ((lI_lt ha hb).mpr q))) H locs ls hP hD hS hl)

theorem g_lcmp_ge (hX : gOK X cc own l E rm nL) {a b : Int} {off : Int} {tgt : Nat} (hdg0 : decode cc pc = .ok (.lcmp, 1)) (hdg : decode cc (pc + 1) = .ok (.ifCond .ge off, 3)) (ht : ((pc + 1 : Nat) : Int) + off = (tgt : Int)) (ha : gil a) (hb : gil b) (kt : b ≤ a → gW X ws cells slots tgt lv st) (kf : ¬ (b ≤ a) → gW X ws cells slots (pc + 1 + 3) lv st) : gW X ws cells slots pc lv (.long (lI b) :: .long (lI a) :: st) := by
  obtain ⟨p, l', e, R, s, m, args, below, meth, c, A, nL', Q, E'⟩ := X
  obtain ⟨rfl, rfl, rfl, rfl, hx, hbb, hml, hown, hts, hK, hN, hA⟩ := hX
  intro H locs ls hP hD hS hl
  refine W.lcmp hx hbb hdg0 ?_
  exact lv_if_ge hx hbb hdg ht (fun h => kt ((lI_le hb ha).mp ((lg_cmp_ge _ _).mp h)) H locs ls hP hD hS hl) (fun h => kf (fun q => h ((lg_cmp_ge _ _).mpr ((lI_le hb ha).mpr q))) H locs ls hP hD hS hl)

theorem g_lcmp_gt (hX : gOK X cc own l E rm nL) {a b : Int} {off : Int} {tgt : Nat} (hdg0 : decode cc pc = .ok (.lcmp, 1)) (hdg : decode cc (pc + 1) = .ok (.ifCond .gt off, 3)) (ht : ((pc + 1 : Nat) : Int) + off = (tgt : Int)) (ha : gil a) (hb : gil b) (kt : b < a → gW X ws cells slots tgt lv st) (kf : ¬ (b < a) → gW X ws cells slots (pc + 1 + 3) lv st) : gW X ws cells slots pc lv (.long (lI b) :: .long (lI a) :: st) := by
  obtain ⟨p, l', e, R, s, m, args, below, meth, c, A, nL', Q, E'⟩ := X
  obtain ⟨rfl, rfl, rfl, rfl, hx, hbb, hml, hown, hts, hK, hN, hA⟩ := hX
  intro H locs ls hP hD hS hl
  refine W.lcmp hx hbb hdg0 ?_
  exact lv_if_gt hx hbb hdg ht (fun h => kt ((lI_lt hb ha).mp ((lg_cmp_gt _ _).mp h)) H locs ls hP hD hS hl) (fun h => kf (fun q => h ((lg_cmp_gt _ _).mpr ((lI_lt hb ha).mpr q))) H locs ls hP hD hS hl)

theorem g_lcmp_le (hX : gOK X cc own l E rm nL) {a b : Int} {off : Int} {tgt : Nat} (hdg0 : decode cc pc = .ok (.lcmp, 1)) (hdg : decode cc (pc + 1) = .ok (.ifCond .le off, 3)) (ht : ((pc + 1 : Nat) : Int) + off = (tgt : Int)) (ha : gil a) (hb : gil b) (kt : a ≤ b → gW X ws cells slots tgt lv st) (kf : ¬ (a ≤ b) → gW X ws cells slots (pc + 1 + 3) lv st) : gW X ws cells slots pc lv (.long (lI b) :: .long (lI a) :: st) := by
  obtain ⟨p, l', e, R, s, m, args, below, meth, c, A, nL', Q, E'⟩ := X
  obtain ⟨rfl, rfl, rfl, rfl, hx, hbb, hml, hown, hts, hK, hN, hA⟩ := hX
  intro H locs ls hP hD hS hl
  refine W.lcmp hx hbb hdg0 ?_
  exact lv_if_le hx hbb hdg ht (fun h => kt ((lI_le ha hb).mp ((lg_cmp_le _ _).mp h)) H locs ls hP hD hS hl) (fun h => kf (fun q => h ((lg_cmp_le _ _).mpr ((lI_le ha hb).mpr q))) H locs ls hP hD hS hl)

end GG