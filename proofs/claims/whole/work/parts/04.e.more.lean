-- LAYER: nest mates' calls, the library's members, switches
section GN
variable {X : gC} {cc : ByteArray} {own : String} {l : Launch} {E : gE} {rm rmy : Room} {nL : Nat} {ws wc : va_W} {cells slots pc : Nat} {lv : List (Nat × Value)} {st : List Value} {post : Option Value → va_W → Nat → Nat → Prop}
variable {y : MethodName} {bytes : ByteArray} {maxL n index b : Nat} {ret : Option FieldType} {As : List Value}
theorem gN_of {host : String} {s : State} {args : Array Value} (hts : ∀ w ∈ gTB, w.before args s = true) (hN : ∀ w ∈ gNW, va_Nw w s) (hy : gY y bytes maxL ret n) (hl : Cond.methodLinkNest own index y host ∈ gNW) (hfr : rmy.frames + 1 ≤ rm.frames) (hlo : 8 + (maxL + 11) + rmy.locals ≤ rm.locals) : va_CN rm s args own index y host bytes maxL ret (gw y bytes maxL ret) rmy rmy.cells rmy.slots n := by
  refine va_cnB (Ts := gTB) n hts ?_ rfl rfl rfl (hN _ hl) (hts _ hy.2.1) hy.2.2 ⟨hfr, hlo⟩
  intro w hw
  rcases List.mem_cons.mp hw with hw | hw
  · subst hw
    exact ⟨hy.1, Or.inl rfl⟩
  · exact ⟨hw, gTB_good w hw⟩
theorem g_callSN (hX : gOK X cc own l E rm nL) (hM : Ct l E y bytes maxL ret rmy As wc post) (hy : gY y bytes maxL ret n) (hv : Cond.static y ∈ gTB) {host : String} (hl : Cond.methodLinkNest own index y host ∈ gNW) (hn : As.length = n) (hfr : rmy.frames + 1 ≤ rm.frames) (hlo : 8 + (maxL + 11) + rmy.locals ≤ rm.locals)
    (isC : List Nat) (hC : isC.map (fun i => ws[i]?) = wc.map some) (hnd : va_nd isC = true) (rest : List Value) (hst : st = As.reverse ++ rest) (hcat : (rest.map fun v => v.category).sum ≤ 8) (hdg : decode cc pc = .ok (.invokestatic index, 3)) (hc : cells + rmy.cells ≤ rm.cells) (hs : slots + rmy.slots ≤ rm.slots) (hlen : ∀ v w dc ds, post v w dc ds → wc.length ≤ w.length)
    (kk : ∀ v w dc ds, post v w dc ds → gW X (gPut ws isC w) (cells + dc) (slots + ds) (pc + 3) lv (v.toList ++ rest)) : gW X ws cells slots pc lv st := by
  obtain ⟨p, l', e, R, s, m, args, below, meth, c, A, nL', Q, E'⟩ := X
  obtain ⟨rfl, rfl, rfl, rfl, hx, hbb, hml, hown, hts, hK, hN, hA⟩ := hX
  intro H locs ls hP hD hS hlv
  subst hst
  have hpre := gPre (av := As) hK hN hP hD isC hC hnd
  exact gBehind (va_runSN (nL := nL') (cc := cc) (Ts := gTB) (rest := rest) (As := As) (g := F0 m pc ls (As.reverse ++ rest)) ⟨hx, hbb, hml, hown, hts⟩ (hM H.size) ⟨gN_of hts hN hy hl hfr hlo, hts _ hv, trivial⟩ ⟨gP.blind, hpre⟩ rfl hn hlv.1 rfl (lv_room hcat) hdg ⟨hc, hs⟩) hA hP hD hS hlv isC hC hnd hlen kk
theorem g_callIN (hX : gOK X cc own l E rm nL) (hM : Ct l E y bytes maxL none rmy (.ref b :: As) wc post) (hy : gY y bytes maxL none n) (hy1 : y.name = "<init>") (hv : Cond.instanceMethod y ∈ gTB) {host : String} (hl : Cond.methodLinkNest own index y host ∈ gNW) (hn : As.length = n) (hfr : rmy.frames + 1 ≤ rm.frames) (hlo : 8 + (maxL + 11) + rmy.locals ≤ rm.locals)
    (isC : List Nat) (hC : isC.map (fun i => ws[i]?) = wc.map some) (hnd : va_nd isC = true) (rest : List Value) (hst : st = As.reverse ++ .ref b :: rest) (hcat : (rest.map fun v => v.category).sum ≤ 8) (hdg : decode cc pc = .ok (.invokespecial index, 3)) (hc : cells + rmy.cells ≤ rm.cells) (hs : slots + rmy.slots ≤ rm.slots) (hlen : ∀ v w dc ds, post v w dc ds → wc.length ≤ w.length)
    (kk : ∀ v w dc ds, post v w dc ds → gW X (gPut ws isC w) (cells + dc) (slots + ds) (pc + 3) lv (v.toList ++ rest)) : gW X ws cells slots pc lv st := by
  obtain ⟨p, l', e, R, s, m, args, below, meth, c, A, nL', Q, E'⟩ := X
  obtain ⟨rfl, rfl, rfl, rfl, hx, hbb, hml, hown, hts, hK, hN, hA⟩ := hX
  intro H locs ls hP hD hS hlv
  subst hst
  have hpre := gPre (av := .ref b :: As) hK hN hP hD isC hC hnd
  exact gBehind (va_runIN (nL := nL') (cc := cc) (Ts := gTB) (rest := rest) (As := As) (b := b) (g := F0 m pc ls (As.reverse ++ .ref b :: rest)) ⟨hx, hbb, hml, hown, hts⟩ (hM H.size) ⟨gN_of hts hN hy hl hfr hlo, hy1, hts _ hv⟩ ⟨gP.blind, hpre⟩ rfl hn hlv.1 rfl (lv_room hcat) hdg ⟨hc, hs⟩) hA hP hD hS hlv isC hC hnd hlen kk
theorem g_objInit (hX : gOK X cc own l E rm nL) {a : Nat} (h1 : Cond.methodLink own index Lib.objectInit ∈ gTB) (h2 : Cond.instanceMethod Lib.objectInit ∈ gTB) (h3 : Cond.code Lib.objectInit ⟨#[0xb1]⟩ 1 none ∈ gTB) (hfr : 1 ≤ rm.frames) (hlo : 20 ≤ rm.locals) (hcat : (st.map fun v => v.category).sum ≤ 8) (hdg : decode cc pc = .ok (.invokespecial index, 3)) (kk : gW X ws cells slots (pc + 3) lv st) : gW X ws cells slots pc lv (.ref a :: st) := by
  obtain ⟨p, l', e, R, s, m, args, below, meth, c, A, nL', Q, E'⟩ := X
  obtain ⟨rfl, rfl, rfl, rfl, hx, hbb, hml, hown, hts, hK, hN, hA⟩ := hX
  intro H locs ls hP hD hS hl
  have hr := lv_room (m := m) (pc := pc) (ls := ls) (rest := .ref a :: st) hcat
  exact W.objInit hx hbb hown (hts _ h1) (hts _ h2) (hts _ h3) rfl (by rw [hml]; exact hl.1) rfl hdg hfr (by omega) (kk H locs ls hP hD hS hl)
theorem g_mmax (hX : gOK X cc own l E rm nL) {a b : Int} (h1 : Cond.methodLink own index Lib.Math.max.name ∈ gTB) (h2 : Cond.static Lib.Math.max.name ∈ gTB) (h3 : Cond.initialized "java/lang/Math" ∈ gTB) (h4 : Cond.code Lib.Math.max.name Lib.Math.max.code 2 (some .int) ∈ gTB) (hfr : 1 ≤ rm.frames) (hlo : 21 ≤ rm.locals) (hcat : (st.map fun v => v.category).sum ≤ 8) (hc : cells ≤ rm.cells) (hs : slots ≤ rm.slots) (ha : gin a) (hb : gin b) (hdg : decode cc pc = .ok (.invokestatic index, 3)) (kk : gW X ws cells slots (pc + 3) lv (.int (iI (if a < b then b else a)) :: st)) : gW X ws cells slots pc lv (.int (iI b) :: .int (iI a) :: st) := by
  obtain ⟨p, l', e, R, s, m, args, below, meth, c, A, nL', Q, E'⟩ := X
  obtain ⟨rfl, rfl, rfl, rfl, hx, hbb, hml, hown, hts, hK, hN, hA⟩ := hX
  intro H locs ls hP hD hS hl
  refine va_mmax hx hbb (by rw [hml]; exact hl.1.symm) hown (hts _ h1) (hts _ h2) (hts _ h3) (hts _ h4) hfr (by omega) hc hs hdg ?_
  have e1 : (if iI a < iI b then iI b else iI a) = iI (if a < b then b else a) := by
    by_cases h : a < b
    · rw [if_pos h, if_pos ((iI_lt ha hb).mpr h)]
    · rw [if_neg h, if_neg (fun q => h ((iI_lt ha hb).mp q))]
  rw [e1]
  exact kk H locs ls hP hD hS hl
theorem g_mmin (hX : gOK X cc own l E rm nL) {a b : Int} (h1 : Cond.methodLink own index Lib.Math.min.name ∈ gTB) (h2 : Cond.static Lib.Math.min.name ∈ gTB) (h3 : Cond.initialized "java/lang/Math" ∈ gTB) (h4 : Cond.code Lib.Math.min.name Lib.Math.min.code 2 (some .int) ∈ gTB) (hfr : 1 ≤ rm.frames) (hlo : 21 ≤ rm.locals) (hcat : (st.map fun v => v.category).sum ≤ 8) (hc : cells ≤ rm.cells) (hs : slots ≤ rm.slots) (ha : gin a) (hb : gin b) (hdg : decode cc pc = .ok (.invokestatic index, 3)) (kk : gW X ws cells slots (pc + 3) lv (.int (iI (if b < a then b else a)) :: st)) : gW X ws cells slots pc lv (.int (iI b) :: .int (iI a) :: st) := by
  obtain ⟨p, l', e, R, s, m, args, below, meth, c, A, nL', Q, E'⟩ := X
  obtain ⟨rfl, rfl, rfl, rfl, hx, hbb, hml, hown, hts, hK, hN, hA⟩ := hX
  intro H locs ls hP hD hS hl
  refine va_mmin hx hbb (by rw [hml]; exact hl.1.symm) hown (hts _ h1) (hts _ h2) (hts _ h3) (hts _ h4) hfr (by omega) hc hs hdg ?_
  have e1 : (if iI b < iI a then iI b else iI a) = iI (if b < a then b else a) := by
    by_cases h : b < a
    · rw [if_pos h, if_pos ((iI_lt hb ha).mpr h)]
    · rw [if_neg h, if_neg (fun q => h ((iI_lt hb ha).mp q))]
  rw [e1]
  exact kk H locs ls hP hD hS hl
theorem g_tsw (hX : gOK X cc own l E rm nL) {a dflt lo hi off : Int} {offs : Array Int} {len tgt : Nat} (hdg : decode cc pc = .ok (.tableswitch dflt lo hi offs, len)) (ha : gin a) (h1 : lo ≤ a) (h2 : a ≤ hi) (ho : offs[(a - lo).toNat]? = some off) (ht : (pc : Int) + off = (tgt : Int)) (kk : gW X ws cells slots tgt lv st) : gW X ws cells slots pc lv (.int (iI a) :: st) := by
  obtain ⟨p, l', e, R, s, m, args, below, meth, c, A, nL', Q, E'⟩ := X
  obtain ⟨rfl, rfl, rfl, rfl, hx, hbb, hml, hown, hts, hK, hN, hA⟩ := hX
  intro H locs ls hP hD hS hl
  exact lv_tableIn hx hbb hdg (by rw [iI_t ha]; omega) (by rw [iI_t ha]; omega) (by rw [iI_t ha]; exact ho) ht (kk H locs ls hP hD hS hl)
theorem g_tswO (hX : gOK X cc own l E rm nL) {a dflt lo hi : Int} {offs : Array Int} {len tgt : Nat} (hdg : decode cc pc = .ok (.tableswitch dflt lo hi offs, len)) (ha : gin a) (h1 : a < lo ∨ hi < a) (ht : (pc : Int) + dflt = (tgt : Int)) (kk : gW X ws cells slots tgt lv st) : gW X ws cells slots pc lv (.int (iI a) :: st) := by
  obtain ⟨p, l', e, R, s, m, args, below, meth, c, A, nL', Q, E'⟩ := X
  obtain ⟨rfl, rfl, rfl, rfl, hx, hbb, hml, hown, hts, hK, hN, hA⟩ := hX
  intro H locs ls hP hD hS hl
  exact lv_tableOut hx hbb hdg (by rw [iI_t ha]; exact h1) ht (kk H locs ls hP hD hS hl)
theorem g_lsw (hX : gOK X cc own l E rm nL) {a dflt off : Int} {ps : Array (Int × Int)} {len tgt : Nat} (hdg : decode cc pc = .ok (.lookupswitch dflt ps, len)) (hp : (ps.toList.zip (ps.toList.drop 1)).all (fun (a, next) => a.1 < next.1) = true) (ha : gin a) (ho : Op.lookupswitch.offset ps.toList dflt a = off) (ht : (pc : Int) + off = (tgt : Int)) (kk : gW X ws cells slots tgt lv st) : gW X ws cells slots pc lv (.int (iI a) :: st) := by
  obtain ⟨p, l', e, R, s, m, args, below, meth, c, A, nL', Q, E'⟩ := X
  obtain ⟨rfl, rfl, rfl, rfl, hx, hbb, hml, hown, hts, hK, hN, hA⟩ := hX
  intro H locs ls hP hD hS hl
  exact lv_lookup hx hbb hdg hp (by rw [iI_t ha]; exact ho) ht (kk H locs ls hP hD hS hl)
end GN
