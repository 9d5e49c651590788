-- LAYER: contracts, calls, ends
def gPut : va_W → List Nat → va_W → va_W
  | ws, i :: is, c :: w => (gPut ws is w).set i c
  | ws, [], w => ws ++ w
  | ws, _ :: _, [] => ws
theorem gPut_len : ∀ (ws : va_W) (is : List Nat) (w : va_W), is.length ≤ w.length → (gPut ws is w).length = ws.length + (w.length - is.length)
  | ws, i :: is, c :: w, h => by
    unfold gPut
    rw [List.length_set, gPut_len ws is w (by simpa using h)]
    simp
  | ws, [], w, _ => by simp [gPut]
  | ws, _ :: _, [], h => by simp at h
/-- where a cell of the new world comes from -/
theorem gPut_from : ∀ (ws : va_W) (is : List Nat) (w : va_W), is.length ≤ w.length → ∀ (j : Nat) (q : Nat × va_E), (gPut ws is w)[j]? = some q → (∃ k, w[k]? = some q ∧ ((is[k]? = some j) ∨ (is.length ≤ k ∧ j = ws.length + (k - is.length)))) ∨ (j ∉ is ∧ ws[j]? = some q)
  | ws, i :: is, c :: w, h, j, q, hq => by
    unfold gPut at hq
    have h' : is.length ≤ w.length := by simpa using h
    by_cases hij : i = j
    · subst hij
      rw [List.getElem?_set_self'] at hq
      cases hz : (gPut ws is w)[i]? with
      | none => rw [hz] at hq; cases hq
      | some z =>
        rw [hz] at hq
        cases hq
        exact Or.inl ⟨0, rfl, Or.inl rfl⟩
    · rw [List.getElem?_set_ne hij] at hq
      rcases gPut_from ws is w h' j q hq with ⟨k, h1, h2⟩ | ⟨h1, h2⟩
      · refine Or.inl ⟨k + 1, by simpa using h1, ?_⟩
        rcases h2 with h2 | ⟨h2, h3⟩
        · exact Or.inl (by simpa using h2)
        · exact Or.inr ⟨by simp; omega, by simp; omega⟩
      · exact Or.inr ⟨by simp; exact ⟨fun e => hij e.symm, h1⟩, h2⟩
  | ws, [], w, _, j, q, hq => by
    unfold gPut at hq
    by_cases hj : j < ws.length
    · rw [List.getElem?_append_left hj] at hq
      exact Or.inr ⟨by simp, hq⟩
    · rw [List.getElem?_append_right (by omega)] at hq
      exact Or.inl ⟨j - ws.length, hq, Or.inr ⟨by simp, by simp; omega⟩⟩
  | ws, _ :: _, [], h, _, _, _ => by simp at h
theorem gJoin {A0 : Nat → Prop} {D : va_G} {cl : List vw_C} {ws wc w1 : va_W} {H H1 : Heap} (hP : va_P D cl ws H) (hD : va_D A0 ws) (isC : List Nat) (hC : isC.map (fun i => ws[i]?) = wc.map some) (hn : va_nd isC = true) (hlen : wc.length ≤ w1.length)
    (hk : ∀ q : Nat, q < H.size → ¬ va_A wc H.size q → H1[q]? = H[q]?) (hF : ∀ q, va_A wc H.size q → A0 q) (hP1 : va_P D cl w1 H1) (hD1 : va_D (va_A wc H.size) w1) : va_P D cl (gPut ws isC w1) H1 ∧ va_D A0 (gPut ws isC w1) := by
  have hl : isC.length = wc.length := by simpa using congrArg List.length hC
  have atC : ∀ (k : Nat) (q : Nat × va_E), wc[k]? = some q → ∃ i, isC[k]? = some i ∧ ws[i]? = some q := by
    intro k q hq
    have h1 : (isC.map (fun i => ws[i]?))[k]? = some (some q) := by rw [hC, List.getElem?_map, hq]; rfl
    rw [List.getElem?_map] at h1
    cases hi : isC[k]? with
    | none => rw [hi] at h1; cases h1
    | some i => rw [hi] at h1; exact ⟨i, rfl, Option.some.inj h1⟩
  have ofC : ∀ i, i ∈ isC → i < ws.length := by
    intro i hi
    obtain ⟨k, hk⟩ := List.getElem?_of_mem hi
    have h1 : (isC.map (fun i => ws[i]?))[k]? = some (ws[i]?) := by rw [List.getElem?_map, hk]; rfl
    rw [hC, List.getElem?_map] at h1
    cases hz : wc[k]? with
    | none => rw [hz] at h1; cases h1
    | some z =>
      rw [hz] at h1
      exact (List.getElem?_eq_some_iff.mp (Option.some.inj h1).symm).1
  have apart : ∀ (j : Nat) (q : Nat × va_E), j ∉ isC → ws[j]? = some q → q.1 < H.size ∧ ¬ va_A wc H.size q.1 := by
    intro j q hj hq
    have hlt := (hP j q hq).lt
    refine ⟨hlt, fun h => ?_⟩
    rcases h with ⟨k, e, he⟩ | h
    · obtain ⟨i, h1, h2⟩ := atC k _ he
      have := hD.1 i j _ _ h2 hq rfl
      subst this
      exact hj (List.mem_of_getElem? h1)
    · omega
  constructor
  · intro j q hq
    rcases gPut_from ws isC w1 (by omega) j q hq with ⟨k, h1, -⟩ | ⟨h1, h2⟩
    · exact hP1 k q h1
    · obtain ⟨g1, g2⟩ := apart j q h1 h2
      exact (hP j q h2).kept (hk q.1 g1 g2)
  · refine ⟨fun i j x y hx hy hxy => ?_, fun j q hq => ?_⟩
    · rcases gPut_from ws isC w1 (by omega) i x hx with ⟨k1, a1, b1⟩ | ⟨a1, b1⟩ <;> rcases gPut_from ws isC w1 (by omega) j y hy with ⟨k2, a2, b2⟩ | ⟨a2, b2⟩
      · have := hD1.1 k1 k2 x y a1 a2 hxy
        subst this
        rcases b1 with b1 | ⟨b1, c1⟩ <;> rcases b2 with b2 | ⟨b2, c2⟩
        · exact Option.some.inj (b1.symm.trans b2)
        · have := (List.getElem?_eq_some_iff.mp b1).1; omega
        · have := (List.getElem?_eq_some_iff.mp b2).1; omega
        · omega
      · exact absurd (hxy ▸ hD1.2 k1 x a1) (apart j y a2 b2).2
      · exact absurd (hxy ▸ hD1.2 k2 y a2) (apart i x a1 b1).2
      · exact hD.1 i j x y b1 b2 hxy
    · rcases gPut_from ws isC w1 (by omega) j q hq with ⟨k, h1, -⟩ | ⟨h1, h2⟩
      · exact hF _ (hD1.2 k q h1)
      · exact hD.2 j q h2
abbrev gw (y : MethodName) (cc : ByteArray) (maxL : Nat) (ret : Option FieldType) : List Cond := .code y cc maxL ret :: gTB
def gQ (E : gE) (w0 : va_W) (sz : Nat) (post : Option Value → va_W → Nat → Nat → Prop) : Array Value → State → Outcome → State → Prop := fun _ st oc t => (∃ (v : Option Value) (w : va_W) (dc ds : Nat), oc = .returned v ∧ post v w dc ds ∧ va_P E.1 vwCl w t.heap ∧ va_D (va_A w0 sz) w ∧ gGrow st.heap t.heap dc ds) ∧ va_F (va_A w0 sz) st t
def gP (E : gE) (av : List Value) (w0 : va_W) (sz : Nat) : Array Value → State → Prop := va_Pc av (fun U => U.heap.size = sz ∧ va_P E.1 vwCl w0 U.heap ∧ va_K E.1 vwCl (gtys E) U ∧ (∀ w ∈ gNW, va_Nw w U) ∧ va_D (fun _ => True) w0)
/-- THE CONTRACT of a method: from the world w0 and the arguments av it comes to an answer v, a world w, and dc new cells with ds slots, with 'post' -/
def Ct (l : Launch) (E : gE) (y : MethodName) (cc : ByteArray) (maxL : Nat) (ret : Option FieldType) (rm : Room) (av : List Value) (w0 : va_W) (post : Option Value → va_W → Nat → Nat → Prop) : Prop :=
  ∀ sz : Nat, Met l y (gw y cc maxL ret) rm (gP E av w0 sz) (gQ E w0 sz post) rm.cells rm.slots (va_A w0 sz)
theorem gP.blind {E : gE} {av : List Value} {w0 : va_W} {sz : Nat} : FrameBlind (gP E av w0 sz) := fun a U g mk q => by
  obtain ⟨q0, q1, qP, qK, qN, qD⟩ := q
  exact ⟨q0, q1, qP, va_K.moved (u := U) (U := U.calling g mk a) (Vm.Alike.refl U.vm) qK, fun w hw => va_Nw.same (u := U) (U := U.calling g mk a) (gNW_on w hw) rfl (qN w hw), qD⟩
def gEnd : gC → Option FieldType → va_W → (Option Value → va_W → Nat → Nat → Prop) → Prop
  | (_, _, _, R, s, _, args, below, meth, _, A, _, Q, E), ret, w0, post => meth.sig.returnType = ret ∧ meth.locks = false ∧ A = va_A w0 s.heap.size ∧ Q = MQ below (gQ E w0 s.heap.size post) args s R.cells R.slots (va_A w0 s.heap.size)
theorem g_start {l : Launch} {E : gE} {y : MethodName} {cc : ByteArray} {maxL : Nat} {ret : Option FieldType} {rm : Room} {av : List Value} {w0 : va_W} {post : Option Value → va_W → Nat → Nat → Prop} (hy : plainName y.cls = true) (hlen : (lg_sl av).length ≤ maxL)
    (body : ∀ X : gC, gOK X cc y.cls l E rm maxL → gEnd X ret w0 post → (y.name = "<init>" → gInit X) → gW X w0 0 0 0 (lv_args 0 av) []) : Ct l E y cc maxL ret rm av w0 post := by
  intro sz
  refine Met.ofW (cc := cc) (maxL := maxL) (ret := ret) hy rfl ?_
  intro p e s m args below meth c s₁ B hml hv
  obtain ⟨rfl, hsz, hP, hK, hN, hD0⟩ := hv
  subst hsz
  have hts := atoms_spec (ws := gw y cc maxL ret) B.pre
  have hl := lv_entry av (n := maxL) hlen
  rw [lg_entry_eq]
  exact body (p, l, e, rm, s, m, av.toArray, below, meth, c, va_A w0 s.heap.size, maxL, MQ below (gQ E w0 s.heap.size post) av.toArray s rm.cells rm.slots (va_A w0 s.heap.size), E)
    ⟨rfl, rfl, rfl, rfl, B.exec, B.bytes, hml, findClass_of_methodNamed B.named, fun w hw => hts w (List.mem_cons_of_mem _ hw), hK, hN, fun q h => Or.inr h⟩
    ⟨B.returns, B.notSynchronized, rfl, rfl⟩ (fun h => (name_of_methodNamed B.named B.method).1.trans h) s.heap [] _ hP hD0.self va_S.rf hl
section GI
variable {X : gC} {cc : ByteArray} {own : String} {l : Launch} {E : gE} {rm : Room} {nL : Nat} {ws : va_W} {cells slots pc : Nat} {lv : List (Nat × Value)} {st : List Value} {w0 : va_W} {post : Option Value → va_W → Nat → Nat → Prop}
theorem g_iret (hX : gOK X cc own l E rm nL) (hE : gEnd X (some .int) w0 post) {v : Int32} (hdg : decode cc pc = .ok (.ireturn, 1)) (h1 : cells ≤ rm.cells) (h2 : slots ≤ rm.slots) (hp : post (some (.int v)) ws cells slots) : gW X ws cells slots pc lv [.int v] := by
  obtain ⟨p, l', e, R, s, m, args, below, meth, c, A, nL', Q, E'⟩ := X
  obtain ⟨rfl, rfl, rfl, rfl, hx, hbb, hml, hown, hts, hK, hN, hA⟩ := hX
  obtain ⟨hr, hlocks, rfl, rfl⟩ := hE
  intro H locs ls hP hD hS hl T hT Xs
  have hg := gGrow.of Xs
  refine (W.widen h1 h2 (W.iret hx hbb hr (fun t ht hW => ?_) hS.2.2 hdg hlocks)) T hT Xs
  exact ⟨⟨_, ws, cells, slots, rfl, hp, by rw [ht]; exact hP, hD, by rw [ht, ← hT]; exact hg⟩, hS.F ht⟩
theorem g_zret (hX : gOK X cc own l E rm nL) (hE : gEnd X (some .boolean) w0 post) {b : Int} (hb : b = 0 ∨ b = 1) (hdg : decode cc pc = .ok (.ireturn, 1)) (h1 : cells ≤ rm.cells) (h2 : slots ≤ rm.slots) (hp : post (some (.int (iI b))) ws cells slots) : gW X ws cells slots pc lv [.int (iI b)] := by
  obtain ⟨p, l', e, R, s, m, args, below, meth, c, A, nL', Q, E'⟩ := X
  obtain ⟨rfl, rfl, rfl, rfl, hx, hbb, hml, hown, hts, hK, hN, hA⟩ := hX
  obtain ⟨hr, hlocks, rfl, rfl⟩ := hE
  intro H locs ls hP hD hS hl T hT Xs
  have hg := gGrow.of Xs
  refine (W.widen h1 h2 (W.zret hx hbb hr (by rcases hb with rfl | rfl <;> rfl) (fun t ht hW => ?_) hS.2.2 hdg hlocks)) T hT Xs
  exact ⟨⟨_, ws, cells, slots, rfl, hp, by rw [ht]; exact hP, hD, by rw [ht, ← hT]; exact hg⟩, hS.F ht⟩
theorem g_lret (hX : gOK X cc own l E rm nL) (hE : gEnd X (some .long) w0 post) {v : Int64} (hdg : decode cc pc = .ok (.lreturn, 1)) (h1 : cells ≤ rm.cells) (h2 : slots ≤ rm.slots) (hp : post (some (.long v)) ws cells slots) : gW X ws cells slots pc lv [.long v] := by
  obtain ⟨p, l', e, R, s, m, args, below, meth, c, A, nL', Q, E'⟩ := X
  obtain ⟨rfl, rfl, rfl, rfl, hx, hbb, hml, hown, hts, hK, hN, hA⟩ := hX
  obtain ⟨hr, hlocks, rfl, rfl⟩ := hE
  intro H locs ls hP hD hS hl T hT Xs
  have hg := gGrow.of Xs
  refine (W.widen h1 h2 (W.lret hx hbb hr (fun t ht hW => ?_) hS.2.2 hdg hlocks)) T hT Xs
  exact ⟨⟨_, ws, cells, slots, rfl, hp, by rw [ht]; exact hP, hD, by rw [ht, ← hT]; exact hg⟩, hS.F ht⟩
theorem g_vret (hX : gOK X cc own l E rm nL) (hE : gEnd X none w0 post) (hdg : decode cc pc = .ok (.return_, 1)) (h1 : cells ≤ rm.cells) (h2 : slots ≤ rm.slots) (hp : post none ws cells slots) : gW X ws cells slots pc lv [] := by
  obtain ⟨p, l', e, R, s, m, args, below, meth, c, A, nL', Q, E'⟩ := X
  obtain ⟨rfl, rfl, rfl, rfl, hx, hbb, hml, hown, hts, hK, hN, hA⟩ := hX
  obtain ⟨hr, hlocks, rfl, rfl⟩ := hE
  intro H locs ls hP hD hS hl T hT Xs
  have hg := gGrow.of Xs
  refine (W.widen h1 h2 (W.vret hx hbb hr (fun t ht hW => ?_) hS.2.2 hdg hlocks)) T hT Xs
  exact ⟨⟨_, ws, cells, slots, rfl, hp, by rw [ht]; exact hP, hD, by rw [ht, ← hT]; exact hg⟩, hS.F ht⟩
theorem g_aret (hX : gOK X cc own l E rm nL) {rt : FieldType} (hE : gEnd X (some rt) w0 post) (hrt : (∃ n, rt = .object n) ∨ ∃ t, rt = .array t) {a : Nat} (hdg : decode cc pc = .ok (.areturn, 1)) (h1 : cells ≤ rm.cells) (h2 : slots ≤ rm.slots) (hp : post (some (.ref a)) ws cells slots) : gW X ws cells slots pc lv [.ref a] := by
  obtain ⟨p, l', e, R, s, m, args, below, meth, c, A, nL', Q, E'⟩ := X
  obtain ⟨rfl, rfl, rfl, rfl, hx, hbb, hml, hown, hts, hK, hN, hA⟩ := hX
  obtain ⟨hr, hlocks, rfl, rfl⟩ := hE
  intro H locs ls hP hD hS hl T hT Xs
  have hg := gGrow.of Xs
  refine (W.widen h1 h2 (W.aret hx hbb hr hrt (Or.inr ⟨a, rfl⟩) (fun t ht hW => ?_) hS.2.2 hdg hlocks)) T hT Xs
  exact ⟨⟨_, ws, cells, slots, rfl, hp, by rw [ht]; exact hP, hD, by rw [ht, ← hT]; exact hg⟩, hS.F ht⟩
end GI
/-- behind any call: what the kit's va_Run gives, in this layer's words -/
theorem gBehind {p : Program} {l : Launch} {e : Env} {R : Room} {s : State} {m : MethodId} {args : Array Value} {below : List Frame} {meth : Method} {c : Code} {A : Nat → Prop} {nL : Nat} {Q : State → Prop} {E : gE} {ws wc : va_W} {cells slots pc mc ms : Nat} {lv : List (Nat × Value)} {st rest : List Value} {a : Array Value} {post : Option Value → va_W → Nat → Nat → Prop} {H : Heap} {locs : List Loc} {ls : Array Slot}
    (hr : va_Run p l e R s m args below meth c H locs cells slots mc ms (F0 m pc ls st) rest (gQ E wc H.size post a) (va_A wc H.size)) (hA : ∀ q, s.heap.size ≤ q → A q) (hP : va_P E.1 vwCl ws H) (hD : va_D A ws) (hS : va_S A s.heap H locs) (hl : lv_has ls nL lv)
    (isC : List Nat) (hC : isC.map (fun i => ws[i]?) = wc.map some) (hn : va_nd isC = true) (hlen : ∀ v w dc ds, post v w dc ds → wc.length ≤ w.length)
    (kk : ∀ v w dc ds, post v w dc ds → gW (p, l, e, R, s, m, args, below, meth, c, A, nL, Q, E) (gPut ws isC w) (cells + dc) (slots + ds) (pc + 3) lv (v.toList ++ rest)) : W p l e R s m args below meth c H locs cells slots Q (F0 m pc ls st) := by
  intro T hT Xs
  have hg0 := gGrow.of Xs
  obtain ⟨v, st₀, t, T', L, h0, X', hL, e1, e2, ⟨⟨v', w, dc, ds, hv, hp, hP1, hD1, hg⟩, hz, hk⟩, go⟩ := hr T hT Xs
  cases hv
  rw [h0] at hz hk hg
  rw [hT] at hg0
  have hF : ∀ q, va_A wc H.size q → A q := va_free hD hS hA isC hC
  rw [← e1] at hP1 hg hz hk
  obtain ⟨hP2, hD2⟩ := gJoin hP hD isC hC hn (hlen _ _ _ _ hp) hk hF hP1 hD1
  have hS2 : va_S A s.heap T'.heap (locs ++ L) := ⟨Nat.le_trans hS.1 hz, fun q h1 h2 => by
      rw [hk q (Nat.lt_of_lt_of_le h1 hS.1) (fun z => h2 (hF q z))]; exact hS.2.1 q h1 h2, fun q hq => by
      rcases List.mem_append.mp hq with h | h
      · exact hS.2.2 q h
      · exact hF _ (hL q h)⟩
  obtain ⟨t2, a1, b1⟩ := kk v w dc ds hp T'.heap (locs ++ L) ls hP2 hD2 hS2 hl T' rfl (gTight X' (hg0.trans hg))
  exact ⟨t2, go t2 a1, b1⟩
/-- a method that is called: its words -/
def gY (y : MethodName) (bytes : ByteArray) (maxL : Nat) (ret : Option FieldType) (n : Nat) : Prop := Cond.code y bytes maxL ret ∈ gTB ∧ Cond.initialized y.cls ∈ gTB ∧ (y.cls ≠ "java/lang/invoke/MethodHandle" ∧ y.cls ≠ "java/lang/invoke/VarHandle" ∧ (parseMethodDescriptor y.desc).map (fun d => d.parameters.length) = some n)
def gYV (y : MethodName) : Prop := Cond.instanceMethod y ∈ gTB ∧ Cond.selects y.cls y y ∈ gTB
theorem gw_good {y y2 : MethodName} {b b2 : ByteArray} {m m2 : Nat} {r r2 : Option FieldType} (h : Cond.code y b m r ∈ gTB) : GoodIn (gw y2 b2 m2 r2) (gw y b m r) := by
  intro w hw
  rcases List.mem_cons.mp hw with hw | hw
  · subst hw
    exact ⟨List.mem_cons_of_mem _ h, Or.inl rfl⟩
  · exact ⟨List.mem_cons_of_mem _ hw, gTB_good w hw⟩
section GJ
variable {X : gC} {cc : ByteArray} {own : String} {l : Launch} {E : gE} {rm rmy : Room} {nL : Nat} {ws wc : va_W} {cells slots pc : Nat} {lv : List (Nat × Value)} {st : List Value} {post : Option Value → va_W → Nat → Nat → Prop}
variable {y : MethodName} {bytes : ByteArray} {maxL n index b : Nat} {ret : Option FieldType} {As : List Value}
theorem gB_of {s : State} {args : Array Value} (hts : ∀ w ∈ gTB, w.before args s = true) (hy : gY y bytes maxL ret n) (hl : Cond.methodLink own index y ∈ gTB) (hfr : rmy.frames + 1 ≤ rm.frames) (hlo : 8 + (maxL + 11) + rmy.locals ≤ rm.locals) : CallB rm s args own index y bytes maxL ret (gw y bytes maxL ret) rmy rmy.cells rmy.slots n := by
  refine callB_of (Ts := gTB) n hts ?_ rfl rfl rfl (hts _ hy.2.1) (hts _ hl) hy.2.2 ⟨hfr, hlo⟩
  intro w hw
  rcases List.mem_cons.mp hw with hw | hw
  · subst hw
    exact ⟨hy.1, Or.inl rfl⟩
  · exact ⟨hw, gTB_good w hw⟩
theorem gPre {s : State} {H : Heap} {A : Nat → Prop} {av : List Value} (hK : va_K E.1 vwCl (gtys E) s) (hN : ∀ w ∈ gNW, va_Nw w s) (hP : va_P E.1 vwCl ws H) (hD : va_D A ws) (isC : List Nat) (hC : isC.map (fun i => ws[i]?) = wc.map some) (hn : va_nd isC = true) : ∀ U : State, U.heap = H → s.WarmedH U.vm → gP E av wc H.size av.toArray U := by
  intro U hU hW
  have hs : isC.filterMap (fun i => ws[i]?) = wc := by
    have : ∀ (is : List Nat) (w : va_W), is.map (fun i => ws[i]?) = w.map some → is.filterMap (fun i => ws[i]?) = w := by
      intro is
      induction is with
      | nil => intro w h; cases w with | nil => rfl | cons a b => cases h
      | cons i is ih =>
        intro w h
        cases w with
        | nil => cases h
        | cons a b =>
          simp only [List.map_cons, List.cons.injEq] at h
          rw [List.filterMap_cons, h.1, ih b h.2]
    exact this isC wc hC
  exact ⟨rfl, by rw [hU], by rw [hU]; exact hP.sub isC hs, va_K.moved hW.alike hK, fun w hw => gNW_warm w hw hW (hN w hw), (hD.sub isC hn hC).weaken (fun _ _ _ _ => trivial)⟩
theorem g_callV (hX : gOK X cc own l E rm nL) (hM : Ct l E y bytes maxL ret rmy (.ref b :: As) wc post) (hy : gY y bytes maxL ret n) (hv : gYV y) (hl : Cond.methodLink own index y ∈ gTB) (hn : As.length = n) (hfr : rmy.frames + 1 ≤ rm.frames) (hlo : 8 + (maxL + 11) + rmy.locals ≤ rm.locals)
    (isC : List Nat) (hC : isC.map (fun i => ws[i]?) = wc.map some) (hnd : va_nd isC = true) {ci : Nat} {q : vw_C} {fs : List Value} (hw0 : wc[0]? = some (b, .inr (ci, fs))) (hci : vwCl[ci]? = some q) (hq : q.1 = y.cls) (rest : List Value) (hst : st = As.reverse ++ .ref b :: rest) (hcat : (rest.map fun v => v.category).sum ≤ 8) (hdg : decode cc pc = .ok (.invokevirtual index, 3)) (hc : cells + rmy.cells ≤ rm.cells) (hs : slots + rmy.slots ≤ rm.slots) (hlen : ∀ v w dc ds, post v w dc ds → wc.length ≤ w.length)
    (kk : ∀ v w dc ds, post v w dc ds → gW X (gPut ws isC w) (cells + dc) (slots + ds) (pc + 3) lv (v.toList ++ rest)) : gW X ws cells slots pc lv st := by
  obtain ⟨p, l', e, R, s, m, args, below, meth, c, A, nL', Q, E'⟩ := X
  obtain ⟨rfl, rfl, rfl, rfl, hx, hbb, hml, hown, hts, hK, hN, hA⟩ := hX
  intro H locs ls hP hD hS hlv
  subst hst
  have hpre := gPre (av := .ref b :: As) hK hN hP hD isC hC hnd
  have hrc : ∃ cellB : Cell, H[b]? = some cellB ∧ cellB.vm.isStatics = false ∧ s.vm.findClass y.cls = some cellB.cls := by
    obtain ⟨i, h1, h2⟩ : ∃ i, isC[0]? = some i ∧ ws[i]? = some (b, .inr (ci, fs)) := by
      have h1 : (isC.map (fun i => ws[i]?))[0]? = some (some (b, .inr (ci, fs))) := by rw [hC, List.getElem?_map, hw0]; rfl
      rw [List.getElem?_map] at h1
      cases hi : isC[0]? with
      | none => rw [hi] at h1; cases h1
      | some i => rw [hi] at h1; exact ⟨i, rfl, Option.some.inj h1⟩
    rw [← hq]
    exact va_recv hK hP hci h2
  exact gBehind (va_runV (nL := nL') (cc := cc) (Ts := gTB) (C := y.cls) (rest := rest) (As := As) (b := b) (g := F0 m pc ls (As.reverse ++ .ref b :: rest)) ⟨hx, hbb, hml, hown, hts⟩ (hM H.size) ⟨gB_of hts hy hl hfr hlo, hts _ hv.1, hts _ hv.2⟩ ⟨gP.blind, hrc, hpre⟩ rfl hn hlv.1 rfl (lv_room hcat) hdg ⟨hc, hs⟩) hA hP hD hS hlv isC hC hnd hlen kk
theorem g_callS (hX : gOK X cc own l E rm nL) (hM : Ct l E y bytes maxL ret rmy As wc post) (hy : gY y bytes maxL ret n) (hv : Cond.static y ∈ gTB) (hl : Cond.methodLink own index y ∈ gTB) (hn : As.length = n) (hfr : rmy.frames + 1 ≤ rm.frames) (hlo : 8 + (maxL + 11) + rmy.locals ≤ rm.locals)
    (isC : List Nat) (hC : isC.map (fun i => ws[i]?) = wc.map some) (hnd : va_nd isC = true) (rest : List Value) (hst : st = As.reverse ++ rest) (hcat : (rest.map fun v => v.category).sum ≤ 8) (hdg : decode cc pc = .ok (.invokestatic index, 3)) (hc : cells + rmy.cells ≤ rm.cells) (hs : slots + rmy.slots ≤ rm.slots) (hlen : ∀ v w dc ds, post v w dc ds → wc.length ≤ w.length)
    (kk : ∀ v w dc ds, post v w dc ds → gW X (gPut ws isC w) (cells + dc) (slots + ds) (pc + 3) lv (v.toList ++ rest)) : gW X ws cells slots pc lv st := by
  obtain ⟨p, l', e, R, s, m, args, below, meth, c, A, nL', Q, E'⟩ := X
  obtain ⟨rfl, rfl, rfl, rfl, hx, hbb, hml, hown, hts, hK, hN, hA⟩ := hX
  intro H locs ls hP hD hS hlv
  subst hst
  have hpre := gPre (av := As) hK hN hP hD isC hC hnd
  exact gBehind (va_runS (nL := nL') (cc := cc) (Ts := gTB) (rest := rest) (As := As) (g := F0 m pc ls (As.reverse ++ rest)) ⟨hx, hbb, hml, hown, hts⟩ (hM H.size) ⟨gB_of hts hy hl hfr hlo, hts _ hv⟩ ⟨gP.blind, hpre⟩ rfl hn hlv.1 rfl (lv_room hcat) hdg ⟨hc, hs⟩) hA hP hD hS hlv isC hC hnd hlen kk
theorem g_callI (hX : gOK X cc own l E rm nL) (hM : Ct l E y bytes maxL none rmy (.ref b :: As) wc post) (hy : gY y bytes maxL none n) (hy1 : y.name = "<init>") (hv : Cond.instanceMethod y ∈ gTB) (hl : Cond.methodLink own index y ∈ gTB) (hn : As.length = n) (hfr : rmy.frames + 1 ≤ rm.frames) (hlo : 8 + (maxL + 11) + rmy.locals ≤ rm.locals)
    (isC : List Nat) (hC : isC.map (fun i => ws[i]?) = wc.map some) (hnd : va_nd isC = true) (rest : List Value) (hst : st = As.reverse ++ .ref b :: rest) (hcat : (rest.map fun v => v.category).sum ≤ 8) (hdg : decode cc pc = .ok (.invokespecial index, 3)) (hc : cells + rmy.cells ≤ rm.cells) (hs : slots + rmy.slots ≤ rm.slots) (hlen : ∀ v w dc ds, post v w dc ds → wc.length ≤ w.length)
    (kk : ∀ v w dc ds, post v w dc ds → gW X (gPut ws isC w) (cells + dc) (slots + ds) (pc + 3) lv (v.toList ++ rest)) : gW X ws cells slots pc lv st := by
  obtain ⟨p, l', e, R, s, m, args, below, meth, c, A, nL', Q, E'⟩ := X
  obtain ⟨rfl, rfl, rfl, rfl, hx, hbb, hml, hown, hts, hK, hN, hA⟩ := hX
  intro H locs ls hP hD hS hlv
  subst hst
  have hpre := gPre (av := .ref b :: As) hK hN hP hD isC hC hnd
  exact gBehind (va_runI (nL := nL') (cc := cc) (Ts := gTB) (rest := rest) (As := As) (b := b) (g := F0 m pc ls (As.reverse ++ .ref b :: rest)) ⟨hx, hbb, hml, hown, hts⟩ (hM H.size) ⟨gB_of hts hy hl hfr hlo, hy1, hts _ hv⟩ ⟨gP.blind, hpre⟩ rfl hn hlv.1 rfl (lv_room hcat) hdg ⟨hc, hs⟩) hA hP hD hS hlv isC hC hnd hlen kk
end GJ
