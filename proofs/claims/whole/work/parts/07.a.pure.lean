-- what the walks need beside the rules: truth as a number, calls that change nothing
noncomputable def bZ (P : Prop) : Int := @ite Int P (Classical.propDecidable P) 1 0
theorem bZ_t {P : Prop} (h : P) : bZ P = 1 := if_pos h
theorem bZ_f {P : Prop} (h : ¬ P) : bZ P = 0 := if_neg h
theorem bZ_01 (P : Prop) : bZ P = 0 ∨ bZ P = 1 := by
  by_cases h : P
  · exact Or.inr (bZ_t h)
  · exact Or.inl (bZ_f h)
theorem bZ_c {P Q : Prop} (h : P ↔ Q) : bZ P = bZ Q := by rw [propext h]
theorem gPut_same : ∀ (ws : va_W) (is : List Nat) (wc : va_W), is.map (fun i => ws[i]?) = wc.map some → gPut ws is wc = ws
  | ws, i :: is, c :: w, h => by
    simp only [List.map_cons, List.cons.injEq] at h
    unfold gPut
    rw [gPut_same ws is w h.2]
    exact List.ext_getElem? fun j => by
      by_cases hij : i = j
      · subst hij
        rw [List.getElem?_set_self', h.1]; rfl
      · rw [List.getElem?_set_ne hij]
  | ws, [], w, h => by
    cases w with
    | nil => simp [gPut]
    | cons a b => cases h
  | ws, i :: is, [], h => by cases h
def CtP (l : Launch) (E : gE) (y : MethodName) (cc : ByteArray) (maxL : Nat) (ret : Option FieldType) (rm : Room) (av : List Value) (w0 : va_W) (post : Option Value → Prop) : Prop := Ct l E y cc maxL ret rm av w0 (fun v w dc ds => post v ∧ w = w0 ∧ dc = 0 ∧ ds = 0)
section GP
variable {X : gC} {cc : ByteArray} {own : String} {l : Launch} {E : gE} {rm rmy : Room} {nL : Nat} {ws wc : va_W} {cells slots pc : Nat} {lv : List (Nat × Value)} {st : List Value} {post : Option Value → Prop}
variable {y : MethodName} {bytes : ByteArray} {maxL n index b : Nat} {ret : Option FieldType} {As : List Value}
theorem g_pV (hX : gOK X cc own l E rm nL) (hM : CtP l E y bytes maxL ret rmy (.ref b :: As) wc post) (hy : gY y bytes maxL ret n) (hv : gYV y) (hl : Cond.methodLink own index y ∈ gTB) (hn : As.length = n) (hfr : rmy.frames + 1 ≤ rm.frames) (hlo : 8 + (maxL + 11) + rmy.locals ≤ rm.locals)
    (isC : List Nat) (hC : isC.map (fun i => ws[i]?) = wc.map some) (hnd : va_nd isC = true) {ci : Nat} {q : vw_C} {fs : List Value} (hw0 : wc[0]? = some (b, .inr (ci, fs))) (hci : vwCl[ci]? = some q) (hq : q.1 = y.cls) (rest : List Value) (hst : st = As.reverse ++ .ref b :: rest) (hcat : (rest.map fun v => v.category).sum ≤ 8) (hdg : decode cc pc = .ok (.invokevirtual index, 3)) (hc : cells + rmy.cells ≤ rm.cells) (hs : slots + rmy.slots ≤ rm.slots)
    (kk : ∀ v, post v → gW X ws cells slots (pc + 3) lv (v.toList ++ rest)) : gW X ws cells slots pc lv st := by
  refine g_callV hX hM hy hv hl hn hfr hlo isC hC hnd hw0 hci hq rest hst hcat hdg hc hs (fun v w dc ds h => by rw [h.2.1]; exact Nat.le_refl _) (fun v w dc ds h => ?_)
  obtain ⟨h1, rfl, rfl, rfl⟩ := h
  rw [gPut_same ws isC _ hC]
  exact kk v h1
theorem g_pS (hX : gOK X cc own l E rm nL) (hM : CtP l E y bytes maxL ret rmy As wc post) (hy : gY y bytes maxL ret n) (hv : Cond.static y ∈ gTB) (hl : Cond.methodLink own index y ∈ gTB) (hn : As.length = n) (hfr : rmy.frames + 1 ≤ rm.frames) (hlo : 8 + (maxL + 11) + rmy.locals ≤ rm.locals)
    (isC : List Nat) (hC : isC.map (fun i => ws[i]?) = wc.map some) (hnd : va_nd isC = true) (rest : List Value) (hst : st = As.reverse ++ rest) (hcat : (rest.map fun v => v.category).sum ≤ 8) (hdg : decode cc pc = .ok (.invokestatic index, 3)) (hc : cells + rmy.cells ≤ rm.cells) (hs : slots + rmy.slots ≤ rm.slots)
    (kk : ∀ v, post v → gW X ws cells slots (pc + 3) lv (v.toList ++ rest)) : gW X ws cells slots pc lv st := by
  refine g_callS hX hM hy hv hl hn hfr hlo isC hC hnd rest hst hcat hdg hc hs (fun v w dc ds h => by rw [h.2.1]; exact Nat.le_refl _) (fun v w dc ds h => ?_)
  obtain ⟨h1, rfl, rfl, rfl⟩ := h
  rw [gPut_same ws isC _ hC]
  exact kk v h1
theorem g_pSN (hX : gOK X cc own l E rm nL) (hM : CtP l E y bytes maxL ret rmy As wc post) (hy : gY y bytes maxL ret n) (hv : Cond.static y ∈ gTB) {host : String} (hl : Cond.methodLinkNest own index y host ∈ gNW) (hn : As.length = n) (hfr : rmy.frames + 1 ≤ rm.frames) (hlo : 8 + (maxL + 11) + rmy.locals ≤ rm.locals)
    (isC : List Nat) (hC : isC.map (fun i => ws[i]?) = wc.map some) (hnd : va_nd isC = true) (rest : List Value) (hst : st = As.reverse ++ rest) (hcat : (rest.map fun v => v.category).sum ≤ 8) (hdg : decode cc pc = .ok (.invokestatic index, 3)) (hc : cells + rmy.cells ≤ rm.cells) (hs : slots + rmy.slots ≤ rm.slots)
    (kk : ∀ v, post v → gW X ws cells slots (pc + 3) lv (v.toList ++ rest)) : gW X ws cells slots pc lv st := by
  refine g_callSN hX hM hy hv hl hn hfr hlo isC hC hnd rest hst hcat hdg hc hs (fun v w dc ds h => by rw [h.2.1]; exact Nat.le_refl _) (fun v w dc ds h => ?_)
  obtain ⟨h1, rfl, rfl, rfl⟩ := h
  rw [gPut_same ws isC _ hC]
  exact kk v h1
theorem g_beq (hX : gOK X cc own l E rm nL) {P : Prop} {off : Int} {tgt : Nat} (hdg : decode cc pc = .ok (.ifCond .eq off, 3)) (ht : (pc : Int) + off = (tgt : Int)) (kt : ¬ P → gW X ws cells slots tgt lv st) (kf : P → gW X ws cells slots (pc + 3) lv st) : gW X ws cells slots pc lv (.int (iI (bZ P)) :: st) := by
  by_cases h : P
  · refine g_if_eq hX hdg ht (by rw [bZ_t h]; decide) (fun q => ?_) (fun _ => kf h)
    rw [bZ_t h] at q; exact absurd q (by decide)
  · refine g_if_eq hX hdg ht (by rw [bZ_f h]; decide) (fun _ => kt h) (fun q => ?_)
    rw [bZ_f h] at q; exact absurd rfl q
theorem g_bne (hX : gOK X cc own l E rm nL) {P : Prop} {off : Int} {tgt : Nat} (hdg : decode cc pc = .ok (.ifCond .ne off, 3)) (ht : (pc : Int) + off = (tgt : Int)) (kt : P → gW X ws cells slots tgt lv st) (kf : ¬ P → gW X ws cells slots (pc + 3) lv st) : gW X ws cells slots pc lv (.int (iI (bZ P)) :: st) := by
  by_cases h : P
  · refine g_if_ne hX hdg ht (by rw [bZ_t h]; decide) (fun _ => kt h) (fun q => ?_)
    rw [bZ_t h] at q; exact absurd (by decide) q
  · refine g_if_ne hX hdg ht (by rw [bZ_f h]; decide) (fun q => ?_) (fun _ => kf h)
    rw [bZ_f h] at q; exact absurd rfl q
theorem g_ldc2 (hX : gOK X cc own l E rm nL) {v : Int64} (a : Int) (h : Cond.constantLong own index v ∈ gTB) (hv : v = lI a) (hdg : decode cc pc = .ok (.ldc2_w index, 3)) (kk : gW X ws cells slots (pc + 3) lv (.long (lI a) :: st)) : gW X ws cells slots pc lv st := by
  subst hv
  obtain ⟨p, l', e, R, s, m, args, below, meth, c, A, nL', Q, E'⟩ := X
  obtain ⟨rfl, rfl, rfl, rfl, hx, hbb, hml, hown, hts, hK, hN, hA⟩ := hX
  intro H locs ls hP hD hS hl
  exact lv_ldc2 hx hbb hown (hts _ h) hdg (kk H locs ls hP hD hS hl)
theorem g_ldc (hX : gOK X cc own l E rm nL) {v : Int32} (a : Int) (h : Cond.constant own index v ∈ gTB) (hv : v = iI a) (hdg : decode cc pc = .ok (.ldc index, 2)) (kk : gW X ws cells slots (pc + 2) lv (.int (iI a) :: st)) : gW X ws cells slots pc lv st := by
  subst hv
  obtain ⟨p, l', e, R, s, m, args, below, meth, c, A, nL', Q, E'⟩ := X
  obtain ⟨rfl, rfl, rfl, rfl, hx, hbb, hml, hown, hts, hK, hN, hA⟩ := hX
  intro H locs ls hP hD hS hl
  exact lv_ldc hx hbb hown (hts _ h) hdg (kk H locs ls hP hD hS hl)
end GP
def CtI (l : Launch) (E : gE) (y : MethodName) (cc : ByteArray) (maxL : Nat) (ret : Option FieldType) (rm : Room) (av : List Value) (w0 : va_W) (a : Int) : Prop := CtP l E y cc maxL ret rm av w0 (fun v => v = some (.int (iI a)))
def CtL (l : Launch) (E : gE) (y : MethodName) (cc : ByteArray) (maxL : Nat) (ret : Option FieldType) (rm : Room) (av : List Value) (w0 : va_W) (a : Int) : Prop := CtP l E y cc maxL ret rm av w0 (fun v => v = some (.long (lI a)))
section GQ
variable {X : gC} {cc : ByteArray} {own : String} {l : Launch} {E : gE} {rm rmy : Room} {nL : Nat} {ws wc : va_W} {cells slots pc : Nat} {lv : List (Nat × Value)} {st : List Value} {a : Int}
variable {y : MethodName} {bytes : ByteArray} {maxL n index b : Nat} {ret : Option FieldType} {As : List Value}
theorem g_iV (hX : gOK X cc own l E rm nL) (hM : CtI l E y bytes maxL ret rmy (.ref b :: As) wc a) (hy : gY y bytes maxL ret n) (hv : gYV y) (hl : Cond.methodLink own index y ∈ gTB) (hn : As.length = n) (hfr : rmy.frames + 1 ≤ rm.frames) (hlo : 8 + (maxL + 11) + rmy.locals ≤ rm.locals)
    (isC : List Nat) (hC : isC.map (fun i => ws[i]?) = wc.map some) (hnd : va_nd isC = true) {ci : Nat} {q : vw_C} {fs : List Value} (hw0 : wc[0]? = some (b, .inr (ci, fs))) (hci : vwCl[ci]? = some q) (hq : q.1 = y.cls) (rest : List Value) (hst : st = As.reverse ++ .ref b :: rest) (hcat : (rest.map fun v => v.category).sum ≤ 8) (hdg : decode cc pc = .ok (.invokevirtual index, 3)) (hc : cells + rmy.cells ≤ rm.cells) (hs : slots + rmy.slots ≤ rm.slots)
    (kk : gW X ws cells slots (pc + 3) lv (.int (iI a) :: rest)) : gW X ws cells slots pc lv st :=
  g_pV hX hM hy hv hl hn hfr hlo isC hC hnd hw0 hci hq rest hst hcat hdg hc hs (fun v h => by rw [h]; exact kk)
theorem g_lV (hX : gOK X cc own l E rm nL) (hM : CtL l E y bytes maxL ret rmy (.ref b :: As) wc a) (hy : gY y bytes maxL ret n) (hv : gYV y) (hl : Cond.methodLink own index y ∈ gTB) (hn : As.length = n) (hfr : rmy.frames + 1 ≤ rm.frames) (hlo : 8 + (maxL + 11) + rmy.locals ≤ rm.locals)
    (isC : List Nat) (hC : isC.map (fun i => ws[i]?) = wc.map some) (hnd : va_nd isC = true) {ci : Nat} {q : vw_C} {fs : List Value} (hw0 : wc[0]? = some (b, .inr (ci, fs))) (hci : vwCl[ci]? = some q) (hq : q.1 = y.cls) (rest : List Value) (hst : st = As.reverse ++ .ref b :: rest) (hcat : (rest.map fun v => v.category).sum ≤ 8) (hdg : decode cc pc = .ok (.invokevirtual index, 3)) (hc : cells + rmy.cells ≤ rm.cells) (hs : slots + rmy.slots ≤ rm.slots)
    (kk : gW X ws cells slots (pc + 3) lv (.long (lI a) :: rest)) : gW X ws cells slots pc lv st :=
  g_pV hX hM hy hv hl hn hfr hlo isC hC hnd hw0 hci hq rest hst hcat hdg hc hs (fun v h => by rw [h]; exact kk)
theorem g_iS (hX : gOK X cc own l E rm nL) (hM : CtI l E y bytes maxL ret rmy As wc a) (hy : gY y bytes maxL ret n) (hv : Cond.static y ∈ gTB) (hl : Cond.methodLink own index y ∈ gTB) (hn : As.length = n) (hfr : rmy.frames + 1 ≤ rm.frames) (hlo : 8 + (maxL + 11) + rmy.locals ≤ rm.locals)
    (isC : List Nat) (hC : isC.map (fun i => ws[i]?) = wc.map some) (hnd : va_nd isC = true) (rest : List Value) (hst : st = As.reverse ++ rest) (hcat : (rest.map fun v => v.category).sum ≤ 8) (hdg : decode cc pc = .ok (.invokestatic index, 3)) (hc : cells + rmy.cells ≤ rm.cells) (hs : slots + rmy.slots ≤ rm.slots)
    (kk : gW X ws cells slots (pc + 3) lv (.int (iI a) :: rest)) : gW X ws cells slots pc lv st :=
  g_pS hX hM hy hv hl hn hfr hlo isC hC hnd rest hst hcat hdg hc hs (fun v h => by rw [h]; exact kk)
theorem g_lS (hX : gOK X cc own l E rm nL) (hM : CtL l E y bytes maxL ret rmy As wc a) (hy : gY y bytes maxL ret n) (hv : Cond.static y ∈ gTB) (hl : Cond.methodLink own index y ∈ gTB) (hn : As.length = n) (hfr : rmy.frames + 1 ≤ rm.frames) (hlo : 8 + (maxL + 11) + rmy.locals ≤ rm.locals)
    (isC : List Nat) (hC : isC.map (fun i => ws[i]?) = wc.map some) (hnd : va_nd isC = true) (rest : List Value) (hst : st = As.reverse ++ rest) (hcat : (rest.map fun v => v.category).sum ≤ 8) (hdg : decode cc pc = .ok (.invokestatic index, 3)) (hc : cells + rmy.cells ≤ rm.cells) (hs : slots + rmy.slots ≤ rm.slots)
    (kk : gW X ws cells slots (pc + 3) lv (.long (lI a) :: rest)) : gW X ws cells slots pc lv st :=
  g_pS hX hM hy hv hl hn hfr hlo isC hC hnd rest hst hcat hdg hc hs (fun v h => by rw [h]; exact kk)
theorem g_iSN (hX : gOK X cc own l E rm nL) (hM : CtI l E y bytes maxL ret rmy As wc a) (hy : gY y bytes maxL ret n) (hv : Cond.static y ∈ gTB) {host : String} (hl : Cond.methodLinkNest own index y host ∈ gNW) (hn : As.length = n) (hfr : rmy.frames + 1 ≤ rm.frames) (hlo : 8 + (maxL + 11) + rmy.locals ≤ rm.locals)
    (isC : List Nat) (hC : isC.map (fun i => ws[i]?) = wc.map some) (hnd : va_nd isC = true) (rest : List Value) (hst : st = As.reverse ++ rest) (hcat : (rest.map fun v => v.category).sum ≤ 8) (hdg : decode cc pc = .ok (.invokestatic index, 3)) (hc : cells + rmy.cells ≤ rm.cells) (hs : slots + rmy.slots ≤ rm.slots)
    (kk : gW X ws cells slots (pc + 3) lv (.int (iI a) :: rest)) : gW X ws cells slots pc lv st :=
  g_pSN hX hM hy hv hl hn hfr hlo isC hC hnd rest hst hcat hdg hc hs (fun v h => by rw [h]; exact kk)
end GQ
