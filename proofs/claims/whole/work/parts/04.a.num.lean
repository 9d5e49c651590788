-- LAYER: numbers by integers; one judgement gW over the kit's W, with the machine's fixed things in one tuple
def iI (a : Int) : Int32 := Int32.ofInt a
def lI (a : Int) : Int64 := Int64.ofInt a
abbrev gin (a : Int) : Prop := -2147483648 ≤ a ∧ a < 2147483648
abbrev gil (a : Int) : Prop := -9223372036854775808 ≤ a ∧ a < 9223372036854775808
theorem iI_t {a : Int} (h : gin a) : (iI a).toInt = a := Int32.toInt_ofInt_of_le (by have := h.1; omega) (by have := h.2; omega)
theorem lI_t {a : Int} (h : gil a) : (lI a).toInt = a := Int64.toInt_ofInt_of_le (by have := h.1; omega) (by have := h.2; omega)
theorem iI_of (x : Int32) : ∃ a : Int, gin a ∧ x = iI a := ⟨x.toInt, ⟨by have := x.le_toInt; omega, by have := x.toInt_lt; omega⟩, (Int32.ofInt_toInt x).symm⟩
theorem lI_of (x : Int64) : ∃ a : Int, gil a ∧ x = lI a := ⟨x.toInt, ⟨by have := x.le_toInt; omega, by have := x.toInt_lt; omega⟩, (Int64.ofInt_toInt x).symm⟩
theorem iI_add (a b : Int) : iI a + iI b = iI (a + b) := (Int32.ofInt_add a b).symm
theorem iI_sub (a b : Int) : iI a - iI b = iI (a - b) := (Int32.ofInt_sub a b).symm
theorem iI_mul (a b : Int) : iI a * iI b = iI (a * b) := (Int32.ofInt_mul a b).symm
theorem lI_add (a b : Int) : lI a + lI b = lI (a + b) := (Int64.ofInt_add a b).symm
theorem lI_sub (a b : Int) : lI a - lI b = lI (a - b) := (Int64.ofInt_sub a b).symm
theorem lI_mul (a b : Int) : lI a * lI b = lI (a * b) := (Int64.ofInt_mul a b).symm
theorem iI_lt {a b : Int} (ha : gin a) (hb : gin b) : iI a < iI b ↔ a < b := by rw [Int32.lt_iff_toInt_lt, iI_t ha, iI_t hb]
theorem iI_le {a b : Int} (ha : gin a) (hb : gin b) : iI a ≤ iI b ↔ a ≤ b := by rw [Int32.le_iff_toInt_le, iI_t ha, iI_t hb]
theorem iI_eq {a b : Int} (ha : gin a) (hb : gin b) : iI a = iI b ↔ a = b := by rw [← Int32.toInt_inj, iI_t ha, iI_t hb]
theorem lI_lt {a b : Int} (ha : gil a) (hb : gil b) : lI a < lI b ↔ a < b := by rw [Int64.lt_iff_toInt_lt, lI_t ha, lI_t hb]
theorem lI_le {a b : Int} (ha : gil a) (hb : gil b) : lI a ≤ lI b ↔ a ≤ b := by rw [Int64.le_iff_toInt_le, lI_t ha, lI_t hb]
theorem lI_eq {a b : Int} (ha : gil a) (hb : gil b) : lI a = lI b ↔ a = b := by rw [← Int64.toInt_inj, lI_t ha, lI_t hb]
theorem iI_l {a : Int} (h : gin a) : (iI a).toInt64 = lI a := by
  rw [← Int64.toInt_inj, Int32.toInt_toInt64, iI_t h, lI_t ⟨by have := h.1; omega, by have := h.2; omega⟩]
theorem lI_i (a : Int) : (lI a).toInt32 = iI a := Int64.toInt32_ofInt
theorem iI_cl {a : Int} (h0 : 0 ≤ a) (h1 : a < 2147483648) : (iI a).toNatClampNeg = a.toNat := by
  rw [← Int32.toNat_toInt, iI_t ⟨by omega, h1⟩]
theorem iI_in {a : Int} {n : Nat} (h0 : 0 ≤ a) (h1 : a < 2147483648) (h : a < n) : vp_in (iI a) n := by
  intro q
  rcases q with q | q
  · rw [show (0 : Int32) = iI 0 from rfl, iI_lt ⟨by omega, h1⟩ ⟨by decide, by decide⟩] at q; omega
  · rw [iI_cl h0 h1] at q; omega
theorem iI_nn {a : Int} (h0 : 0 ≤ a) (h1 : a < 2147483648) : ¬ iI a < 0 := by
  rw [show (0 : Int32) = iI 0 from rfl, iI_lt ⟨by omega, h1⟩ ⟨by decide, by decide⟩]; omega
theorem iI_0 : iI 0 = 0 := rfl
theorem lI_0 : lI 0 = 0 := rfl
theorem iI_nat (n : Nat) : Int32.ofNat n = iI n := (Int32.ofInt_eq_ofNat).symm
/-- a function changed at one place -/
def uZ {α : Type} (f : Nat → α) (k : Nat) (x : α) : Nat → α := fun j => if j = k then x else f j
theorem uZ_s {α : Type} {f : Nat → α} {k : Nat} {x : α} : uZ f k x k = x := if_pos rfl
theorem uZ_n {α : Type} {f : Nat → α} {k j : Nat} {x : α} (h : j ≠ k) : uZ f k x j = f j := if_neg h
theorem uZ_i (f : Nat → Int) (k : Nat) (x : Int) : upd (fun j => iI (f j)) k (iI x) = fun j => iI (uZ f k x j) := by
  funext j; unfold upd uZ; split <;> rfl
theorem uZ_l (f : Nat → Int) (k : Nat) (x : Int) : vp_updL (fun j => lI (f j)) k (lI x) = fun j => lI (uZ f k x j) := by
  funext j; unfold vp_updL uZ; split <;> rfl
/-- what the heap has grown by: cells and slots; the old cells keep their sizes -/
def gSum (n : Nat) (H : Heap) : Nat := ((H.toList.drop n).map (fun c : Cell => c.slots.size)).sum
def gGrow (H0 H1 : Heap) (dc ds : Nat) : Prop := H0.size ≤ H1.size ∧ H1.size ≤ H0.size + dc ∧ gSum H0.size H1 ≤ ds ∧ ∀ (a : Nat) (c : Cell), H0[a]? = some c → ∃ c' : Cell, H1[a]? = some c' ∧ c'.slots.size = c.slots.size
theorem gGrow.szs {H0 H1 : Heap} {a b : Nat} (h : gGrow H0 H1 a b) : ((H1.toList.map (fun c : Cell => c.slots.size)).take H0.size) = H0.toList.map (fun c : Cell => c.slots.size) := by
  apply List.ext_getElem?
  intro i
  rw [List.getElem?_take]
  by_cases hi : i < H0.size
  · rw [if_pos hi, List.getElem?_map, List.getElem?_map]
    have h0 : H0[i]? = some H0[i] := Array.getElem?_eq_getElem hi
    obtain ⟨c', h1, h2⟩ := h.2.2.2 i _ h0
    rw [← Array.getElem?_toList] at h0 h1
    rw [h0, h1]
    simp [h2]
  · rw [if_neg hi, eq_comm, List.getElem?_eq_none_iff]
    simp; omega
theorem gGrow.trans {H0 H1 H2 : Heap} {a b c d : Nat} (h : gGrow H0 H1 a b) (k : gGrow H1 H2 c d) : gGrow H0 H2 (a + c) (b + d) := by
  refine ⟨Nat.le_trans h.1 k.1, by have := h.2.1; have := k.2.1; omega, ?_, fun x y hx => ?_⟩
  · have e : gSum H0.size H2 = gSum H0.size H1 + gSum H1.size H2 := by
      unfold gSum
      rw [List.map_drop, List.map_drop, List.map_drop]
      have q := k.szs
      have q1 : H0.size ≤ (H1.toList.map (fun c : Cell => c.slots.size)).length := by simpa using h.1
      generalize H2.toList.map (fun c : Cell => c.slots.size) = M2 at q ⊢
      generalize H1.toList.map (fun c : Cell => c.slots.size) = M1 at q q1 ⊢
      have q2 : M2 = M1 ++ M2.drop H1.size := by rw [← q]; exact (List.take_append_drop _ _).symm
      have q3 : M2.drop H0.size = M1.drop H0.size ++ M2.drop H1.size := by
        conv => lhs; rw [q2]
        rw [List.drop_append_of_le_length q1]
      rw [q3, List.sum_append]
    rw [e]
    have := h.2.2.1; have := k.2.2.1; omega
  · obtain ⟨c1, q1, q2⟩ := h.2.2.2 x y hx
    obtain ⟨c2, q3, q4⟩ := k.2.2.2 x c1 q1
    exact ⟨c2, q3, q4.trans q2⟩
theorem gGrow.wide {H0 H1 : Heap} {a b c d : Nat} (h : gGrow H0 H1 a b) (h1 : a ≤ c) (h2 : b ≤ d) : gGrow H0 H1 c d := ⟨h.1, by have := h.2.1; omega, by have := h.2.2.1; omega, h.2.2.2⟩
section GS
variable {p : Program} {l : Launch} {e : Env} {R : Room} {s : State} {m : MethodId} {args : Array Value} {below : List Frame} {meth : Method} {c : Code} {T : State} {locs : List Loc} {cells slots : Nat}
theorem gGrow.of (X : Stand p l e R s m args below meth c T locs cells slots) : gGrow s.heap T.heap cells slots := by
  obtain ⟨h1, h2, h3, h4, h5, h6⟩ := X.same
  refine ⟨h2, h3, h5, fun a c hc => ?_⟩
  obtain ⟨c', q1, q2, q3, -⟩ := h6 a c hc
  exact ⟨c', q1, q3⟩
theorem gTight {k n : Nat} (X : Stand p l e R s m args below meth c T locs cells slots) (h : gGrow s.heap T.heap k n) : Stand p l e R s m args below meth c T locs k n := by
  obtain ⟨h1, h2, h3, h4, h5, h6⟩ := X.same
  exact { X with same := ⟨h1, h2, h.2.1, h4, h.2.2.1, h6⟩ }
end GS
