theorem leastN_congr {own : Int} {M : Nat} {R S : Nat → Int} {r : Nat} (h : leastN own M R r) (hs : ∀ i, i < M → R i = S i) : leastN own M S r :=
  ⟨h.1, h.2.1, fun m h1 h2 => by
    obtain ⟨i, g1, g2⟩ := h.2.2.1 m h1 h2
    exact ⟨i, g1, by rw [← hs i g1]; exact g2⟩, fun h1 i hi => by rw [← hs i hi]; exact h.2.2.2 h1 i hi⟩
def ownN (z : Int) : Int := if z = 0 then 120 else z
theorem nmb_in {z m : Int} (h0 : 0 ≤ z) (h1 : z < 2147483648) (h2 : 0 ≤ m) (h3 : m ≤ 9999) : 0 ≤ nmb z m ∧ nmb z m < 9223372036854775808 := by
  have st : ∀ v t B : Int, 0 ≤ v → v < B → 0 < t → 0 ≤ nst v m t ∧ nst v m t < B * 256 := by
    intro v t B a1 a2 a3
    unfold nst
    have d0 : 0 ≤ m / t % 10 := Int.emod_nonneg _ (by decide)
    have d1 : m / t % 10 < 10 := Int.emod_lt_of_pos _ (by decide)
    split <;> omega
  unfold nmb
  have a := st z 1000 2147483648 h0 h1 (by decide)
  have b := st _ 100 _ a.1 a.2 (by decide)
  have c := st _ 10 _ b.1 b.2 (by decide)
  have d := st _ 1 _ c.1 c.2 (by decide)
  have e : (2147483648 : Int) * 256 * 256 * 256 * 256 = 9223372036854775808 := by decide
  refine ⟨d.1, ?_⟩
  rw [← e]; exact d.2
theorem near_nn {X : Nat → Int} {e : Int} {un : Nat} {uf : Nat → Int} {ev : List Nat} {wr : Nat → Int} {N : Nat} (hg : ∀ i, i < un → 0 ≤ uf i) (hp : ∀ i, i < N → 0 ≤ wr i) (hv : ∀ q ∈ ev, q < N) : ∀ i, i < (nearL X e un uf ev wr).length → 0 ≤ (nearL X e un uf ev wr).getD i 0 := by
  intro i hi
  rw [List.getD_eq_getElem?_getD, List.getElem?_eq_getElem hi]
  show 0 ≤ (nearL X e un uf ev wr)[i]
  have hm := List.getElem_mem hi
  generalize (nearL X e un uf ev wr)[i] = z at hm
  unfold nearL at hm
  rcases List.mem_append.mp hm with hm | hm
  · unfold gpL at hm
    obtain ⟨q, h1, rfl⟩ := List.mem_map.mp hm
    exact hg q (List.mem_range.mp (List.mem_filter.mp h1).1)
  · unfold opL at hm
    obtain ⟨q, h1, rfl⟩ := List.mem_map.mp hm
    have hq := List.mem_range.mp (List.mem_filter.mp h1).1
    have hi2 : ev.length - 1 - q < ev.length := by omega
    refine hp _ (hv _ ?_)
    show ev.getD (ev.length - 1 - q) 0 ∈ ev
    rw [List.getD_eq_getElem?_getD, List.getElem?_eq_getElem hi2]
    exact List.getElem_mem hi2
