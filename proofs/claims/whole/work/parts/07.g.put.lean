-- gPut, in a form that is quick to work out
def gLk : List Nat → va_W → Nat → (Nat × va_E) → (Nat × va_E)
  | i :: is, c :: w, k, d => cond (Nat.beq i k) c (gLk is w k d)
  | _, _, _, d => d
def gPB : Nat → va_W → List Nat → va_W → va_W
  | _, [], _, _ => []
  | k, c :: r, is, w => gLk is w k c :: gPB (k + 1) r is w
theorem gPB_get : ∀ (ws : va_W) (k : Nat) (is : List Nat) (w : va_W) (j : Nat), (gPB k ws is w)[j]? = (ws[j]?).map (gLk is w (k + j))
  | [], k, is, w, j => by simp [gPB]
  | c :: r, k, is, w, 0 => by simp [gPB]
  | c :: r, k, is, w, j + 1 => by
    show (gPB (k + 1) r is w)[j]? = _
    rw [gPB_get r (k + 1) is w j]
    simp only [List.getElem?_cons_succ]
    rw [show k + 1 + j = k + (j + 1) by omega]
theorem gPut_get : ∀ (ws : va_W) (is : List Nat) (w : va_W) (j : Nat), is.length = w.length → (gPut ws is w)[j]? = (ws[j]?).map (gLk is w j)
  | ws, i :: is, c :: w, j, h => by
    have ih := gPut_get ws is w j (by simpa using h)
    have eg : ∀ z, gLk (i :: is) (c :: w) j z = cond (Nat.beq i j) c (gLk is w j z) := fun z => rfl
    show ((gPut ws is w).set i c)[j]? = _
    by_cases e : i = j
    · subst e
      rw [List.getElem?_set_self', ih]
      cases ws[i]? with
      | none => rfl
      | some z => show some c = some (gLk (i :: is) (c :: w) i z); rw [eg, Nat.beq_refl]; rfl
    · rw [List.getElem?_set_ne e, ih]
      have hb : Nat.beq i j = false := by
        cases hb : Nat.beq i j with
        | true => exact absurd (Nat.eq_of_beq_eq_true hb) e
        | false => rfl
      cases ws[j]? with
      | none => rfl
      | some z => show some (gLk is w j z) = some (gLk (i :: is) (c :: w) j z); rw [eg, hb]; rfl
  | ws, [], [], j, _ => by
    unfold gPut
    rw [List.append_nil]
    cases ws[j]? with
    | none => rfl
    | some z => rfl
  | ws, [], c :: w, j, h => by simp at h
  | ws, i :: is, [], j, h => by simp at h
theorem gPB_eq {ws : va_W} {is : List Nat} {w : va_W} (h : is.length = w.length) : gPut ws is w = gPB 0 ws is w := by
  apply List.ext_getElem?
  intro j
  rw [gPut_get ws is w j h, gPB_get ws 0 is w j, Nat.zero_add]
theorem g_wsP {X : gC} {ws w : va_W} {is : List Nat} {cells slots pc : Nat} {lv : List (Nat × Value)} {st : List Value} (ws' : va_W) (hl : is.length = w.length) (h : gPB 0 ws is w = ws') (kk : gW X ws' cells slots pc lv st) : gW X (gPut ws is w) cells slots pc lv st := by
  rw [gPB_eq hl, h]; exact kk
