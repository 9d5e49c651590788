-- the law's own numbers, and its script
def yv (xs : Nat → Int32) (j : Nat) : Int := (xs j).toInt
theorem yv_gin (xs : Nat → Int32) (j : Nat) : gin (yv xs j) := ⟨by have := (xs j).le_toInt; unfold yv; omega, by have := (xs j).toInt_lt; unfold yv; omega⟩
theorem yv_e (xs : Nat → Int32) (j : Nat) : iI (yv xs j) = xs j := Int32.ofInt_toInt _
theorem lI_gil (x : Int64) : gil x.toInt := ⟨by have := x.le_toInt; omega, by have := x.toInt_lt; omega⟩
def lsh (a : Int) : Int := (lI a <<< ((iI 32).toInt64 &&& 63)).toInt
theorem lsh_e (a : Int) : lI a <<< ((iI 32).toInt64 &&& 63) = lI (lsh a) := (Int64.ofInt_toInt _).symm
def lmk (a : Int) : Int := (lI a &&& lI 4294967295).toInt
theorem lmk_e (a : Int) : lI a &&& lI 4294967295 = lI (lmk a) := (Int64.ofInt_toInt _).symm
def lz (a b : Int) : Int := (lI (lsh a) ||| lI (lmk b)).toInt
theorem lz_e (a b : Int) : lI (lsh a) ||| lI (lmk b) = lI (lz a b) := (Int64.ofInt_toInt _).symm
theorem lz_gil (a b : Int) : gil (lz a b) := lI_gil _
def iw (a : Int) : Int := (iI a &&& iI 15).toInt
theorem iw_e (a : Int) : iI a &&& iI 15 = iI (iw a) := (Int32.ofInt_toInt _).symm
theorem iw_gin (a : Int) : gin (iw a) := ⟨by have := (iI a &&& iI 15).le_toInt; unfold iw; omega, by have := (iI a &&& iI 15).toInt_lt; unfold iw; omega⟩
def gL : gC → Nat → Nat → (Nat → Int32) → Prop
  | (_, _, _, R, s, _, args, below, meth, _, A, _, Q, _), b, L, xs => va_X b L xs s s.heap ∧ b < s.heap.size ∧ A = (fun q => s.heap.size ≤ q) ∧ R = room_1 ∧ meth.sig.returnType = ret ∧ meth.locks = false ∧ args = #[Value.ref b] ∧ Q = lw_Z below #[Value.ref b] s
section LwR
variable {X : gC} {cc : ByteArray} {own : String} {l : Launch} {E : gE} {rm : Room} {nL : Nat} {ws : va_W} {cells slots pc : Nat} {lv : List (Nat × Value)} {st : List Value} {b L : Nat} {xs : Nat → Int32}
theorem g_sldN (hX : gOK X cc own l E rm nL) (hL : gL X b L xs) {k : Nat} (hk : k < L ∧ k < 2147483648) (hdg : decode cc pc = .ok (.iaload, 1)) (kk : gW X ws cells slots (pc + 1) lv (.int (iI (yv xs k)) :: st)) : gW X ws cells slots pc lv (.int (iI (k : Int)) :: .ref b :: st) := by
  obtain ⟨p, l', e, R, s, m, args, below, meth, c, A, nL', Q, E'⟩ := X
  obtain ⟨rfl, rfl, rfl, rfl, hx, hbb, hml, hown, hts, hK, hN, hA⟩ := hX
  obtain ⟨h1, h2, rfl, -⟩ := hL
  intro H locs ls hP hD hS hl
  refine va_sld hx hbb h1 h2 (Nat.not_le.mpr h2) hS (iI_in (by omega) (by omega) (by omega)) hdg ?_
  have e9 : (iI (k : Int)).toNatClampNeg = k := by rw [iI_cl (by omega) (by omega)]; omega
  rw [e9, ← yv_e xs k]
  exact kk H locs ls hP hD hS hl
theorem g_slen (hX : gOK X cc own l E rm nL) (hL : gL X b L xs) (hdg : decode cc pc = .ok (.arraylength, 1)) (kk : gW X ws cells slots (pc + 1) lv (.int (iI (L : Int)) :: st)) : gW X ws cells slots pc lv (.ref b :: st) := by
  obtain ⟨p, l', e, R, s, m, args, below, meth, c, A, nL', Q, E'⟩ := X
  obtain ⟨rfl, rfl, rfl, rfl, hx, hbb, hml, hown, hts, hK, hN, hA⟩ := hX
  obtain ⟨h1, h2, rfl, -⟩ := hL
  intro H locs ls hP hD hS hl
  refine va_slen hx hbb h1 h2 (Nat.not_le.mpr h2) hS hdg ?_
  rw [iI_nat]
  exact kk H locs ls hP hD hS hl
theorem g_lwret (hX : gOK X code own l E rm nL) (hL : gL X b L xs) (hdg : decode code pc = .ok (.ireturn, 1)) (h1 : cells ≤ 600000) (h2 : slots ≤ 7302250) : gW X ws cells slots pc lv [.int (iI 1)] := by
  obtain ⟨p, l', e, R, s, m, args, below, meth, c, A, nL', Q, E'⟩ := X
  obtain ⟨rfl, rfl, rfl, rfl, hx, hbb, hml, hown, hts, hK, hN, hA⟩ := hX
  obtain ⟨-, -, rfl, rfl, hr, hlk, rfl, rfl⟩ := hL
  intro H locs ls hP hD hS hl
  refine va_forget (fun q hq => hS.2.2 q hq) ?_
  refine W.widen (k := 600000) (n := 7302250) h1 h2 ?_
  exact lw_ret hx hbb hr hlk hdg
end LwR
-- what holds between the calls
def iG (γ : GlT) (gn : Nat) (G : Nat → Int) : Prop := glOK γ ∧ uN γ = gn ∧ agr gn (uF γ) G ∧ ∀ i, i < gn → 1 ≤ G i ∧ G i < 2147483648
def iL (ρ : RowT) (n : Nat) (F Q : Nat → Int) : Prop := rowOK ρ ∧ rN ρ = n ∧ agr n (rF ρ) F ∧ agr n (rG ρ) Q ∧ LI n F Q
def iM (ρ : RowT) (n : Nat) (F Q : Nat → Int) (gn : Nat) : Prop := n = 0 ∨ (TI n F Q gn ∧ ∃ σ, mea ρ σ)
def iT (ρ : RowT) (n : Nat) (F Q : Nat → Int) (gn : Nat) : Prop := rowOK ρ ∧ rN ρ = n ∧ agr n (rF ρ) F ∧ agr n (rG ρ) Q ∧ iM ρ n F Q gn
def iK (ρ : RowT) (n : Nat) (F Q : Nat → Int) : Prop := rowOK ρ ∧ rN ρ = n ∧ agr n (rF ρ) F ∧ agr n (rG ρ) Q ∧ ∀ j, j < n → gin (F j) ∧ gil (Q j)
def lwI (gc : GlT) (kpc pac lac : RowT) (sc : ScT) (nc : PnT) (psc : ScT) (tec spc : RowT) (gn ln cn kn sn : Nat) (G LK LB K B KK KB SK SB : Nat → Int) : Prop := iG gc gn G ∧ iK kpc kn KK KB ∧ iL pac sn SK SB ∧ iL lac ln LK LB ∧ scOK sc ∧ pnOK nc ∧ scOK psc ∧ iT tec cn K B gn ∧ rowOK spc
theorem iT.sig {ρ : RowT} {n gn : Nat} {F Q : Nat → Int} (h : iT ρ n F Q gn) : ∃ σ, (rN ρ = 0 ∨ mea ρ σ) ∧ (n = 0 ∨ oneS n F σ) ∧ (n = 0 ∨ TI n F Q gn) ∧ (∀ j, j < n → 0 ≤ Q j ∧ Q j < 2147483648) ∧ kT F n ∧ (∀ j, j < n → clo F Q gn j) ∧ kT (rF ρ) (rN ρ) ∧ (∀ j, j < rN ρ → clo (rF ρ) (rG ρ) gn j) ∧ (∀ j, j < rN ρ → 0 ≤ rG ρ j ∧ rG ρ j < 2147483648) := by
  obtain ⟨hok, h1, h2, h3, h4⟩ := h
  rcases h4 with h4 | ⟨h4, σ, hm⟩
  · exact ⟨fun _ => 0, Or.inl (by omega), Or.inl h4, Or.inl h4, fun j hj => by omega, fun j hj => by omega, fun j hj => by omega, fun j hj => by omega, fun j hj => by omega, fun j hj => by omega⟩
  · have hc := TI_c h2.sym h3.sym h4
    have h5 := hm.1
    have h6 := hm.2.1
    have h7 := hm.2.2.1
    have h8 := hok.1.1
    rw [h1] at h5 h6 h7 h8
    refine ⟨σ, Or.inr hm, Or.inr ⟨h2.sz h5, h6, h7, h8, fun j hj => ?_⟩, Or.inr h4, fun j hj => (h4.2.2 j hj).1, h4.2.1, h4.1.2, ?_, ?_, ?_⟩
    · have := h4.2.1 j hj; omega
    · rw [h1]; exact hc.2.1
    · rw [h1]; exact hc.1.2
    · rw [h1]; exact fun j hj => (hc.2.2 j hj).1
theorem iL.nb {ρ : RowT} {n : Nat} {F Q : Nat → Int} (h : iL ρ n F Q) : nB ρ ∧ kB ρ := by
  obtain ⟨-, h1, h2, h3, h4⟩ := h
  refine ⟨fun j hj => ?_, fun j hj => ?_⟩
  · rw [h1] at hj
    rw [h3 j hj]; exact (h4 j hj).2.1.1
  · rw [h1] at hj
    rw [h2 j hj]; exact (h4 j hj).1
theorem agr_put {n : Nat} {f f' : Nat → Int} {z : Int} (h : agr n f f') {F : Nat → Int} (hF : ∀ j, j < n → F j = f j) (hz : F n = z) : agr (n + 1) F (uZ f' n z) := by
  intro j hj
  by_cases e : j = n
  · subst e; rw [uZ_s]; exact hz
  · rw [uZ_n e, hF j (by omega)]; exact h j (by omega)
theorem Lr_agr {n m : Nat} {f g f' g' : Nat → Int} (h : Lr n f g = Lr m f' g') : n = m ∧ agr n f f' ∧ agr n g g' := by
  obtain ⟨h1, h2⟩ := Lr_eq h
  exact ⟨h1, fun j hj => (h2 j hj).1, fun j hj => (h2 j hj).2⟩
theorem iG.fd {γ : GlT} {gn : Nat} {G : Nat → Int} (h : iG γ gn G) (z : Int) : fnd (uN γ) (uF γ) z = fnd gn G z := by
  rw [h.2.1]; exact fnd_congr h.2.2.1 z
theorem iG.add {γ : GlT} {gn : Nat} {G : Nat → Int} (h : iG γ gn G) {z : Int} (hz : okName z) (hk : glOK (γ.1, uN γ + 1, uZ (uF γ) (uN γ) z)) : iG (γ.1, uN γ + 1, uZ (uF γ) (uN γ) z) (gn + 1) (uZ G gn z) := by
  obtain ⟨h0, h1, h2, h3⟩ := h
  refine ⟨hk, ?_, ?_, ?_⟩
  · show uN γ + 1 = gn + 1
    omega
  · show agr (gn + 1) (uZ (uF γ) (uN γ) z) (uZ G gn z)
    rw [h1]
    exact agr_put h2 (fun j hj => uZ_n (by omega)) uZ_s
  · intro i hi
    by_cases e : i = gn
    · subst e; rw [uZ_s]
      obtain ⟨a1, a2, -⟩ := okName_tb hz
      exact ⟨a1, a2⟩
    · rw [uZ_n e]; exact h3 i (by omega)
theorem iT.un {ρ : RowT} {n gn gn' : Nat} {F Q : Nat → Int} (h : iT ρ n F Q gn) (hg : gn ≤ gn') : iT ρ n F Q gn' := by
  obtain ⟨h0, h1, h2, h3, h4⟩ := h
  refine ⟨h0, h1, h2, h3, ?_⟩
  rcases h4 with h4 | ⟨h4, h5⟩
  · exact Or.inl h4
  · exact Or.inr ⟨TI_un hg h4, h5⟩
theorem iL.add {ρ ρ' : RowT} {n : Nat} {F Q : Nat → Int} {k z : Int} (h : iL ρ n F Q) (hk : rowOK ρ') (hL : rL ρ' = rL ρ ++ [(k, z)]) (hb : okBes k z) : iL ρ' (n + 1) (uZ F n k) (uZ Q n z) := by
  obtain ⟨h0, h1, h2, h3, h4⟩ := h
  obtain ⟨a1, a2, a3⟩ := rL_one hL
  obtain ⟨e1, e2⟩ := Prod.mk.inj a3
  rw [h1] at a1 a2 e1 e2
  exact ⟨hk, a1, agr_put h2 (fun j hj => (a2 j hj).1) e1, agr_put h3 (fun j hj => (a2 j hj).2) e2, LI_add h4 (fun j hj => ⟨uZ_n (by omega), uZ_n (by omega)⟩) ⟨uZ_s, uZ_s⟩ hb⟩
theorem iL.zero {ρ : RowT} {F Q : Nat → Int} (hk : rowOK ρ) (h : rN ρ = 0) : iL ρ 0 F Q := ⟨hk, h, fun j hj => by omega, fun j hj => by omega, fun j hj => by omega⟩
/-- a copy of a row, on both sides -/
theorem cp_agr {ρ ρ' : RowT} {n : Nat} {F Q F' Q' : Nat → Int} (h1 : rN ρ = n) (h2 : agr n (rF ρ) F) (h3 : agr n (rG ρ) Q) (hL : rL ρ' = rL ρ) (hc : ∀ j, j < n → F' j = F j ∧ Q' j = Q j) : rN ρ' = n ∧ agr n (rF ρ') F' ∧ agr n (rG ρ') Q' := by
  obtain ⟨a1, a2⟩ := Lr_eq hL
  rw [a1] at a2
  rw [h1] at a1 a2
  exact ⟨a1, fun j hj => by rw [(a2 j hj).1, h2 j hj, (hc j hj).1], fun j hj => by rw [(a2 j hj).2, h3 j hj, (hc j hj).2]⟩
