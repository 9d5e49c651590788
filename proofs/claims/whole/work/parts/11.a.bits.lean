-- bits of longs, by integers
theorem lI_bv (a : Int) : (lI a).toBitVec = BitVec.ofInt 64 a := rfl
theorem lI_un (a : Int) : (lI a).toBitVec.toNat = (a % 18446744073709551616).toNat := by rw [lI_bv, BitVec.toNat_ofInt]; rfl
theorem lI_inj {x : Int64} {a : Int} (h : x.toBitVec.toNat = (a % 18446744073709551616).toNat) : x = lI a := by
  apply Int64.toBitVec.inj
  apply BitVec.eq_of_toNat_eq
  rw [h, lI_un]
theorem lI_255 (a : Int) : lI a &&& lI 255 = lI (a % 256) := by
  apply lI_inj
  rw [Int64.toBitVec_and, BitVec.toNat_and, lI_un, lI_un, show ((255 : Int) % 18446744073709551616).toNat = 2 ^ 8 - 1 by decide, Nat.and_two_pow_sub_one_eq_mod]
  omega
theorem sh_u : ∀ k : Fin 64, ((iI (k.val : Int)).toInt64.toUInt64 &&& Int64.toUInt64 63) = UInt64.ofNat k.val := by decide
theorem lI_ush (a : Int) {k : Nat} (hk : k < 64) : ((lI a).toUInt64 >>> ((iI (k : Int)).toInt64.toUInt64 &&& Int64.toUInt64 63)).toInt64 = lI ((a % 18446744073709551616) / ((2 ^ k : Nat) : Int)) := by
  rw [sh_u ⟨k, hk⟩]
  apply lI_inj
  show ((lI a).toUInt64 >>> UInt64.ofNat k).toBitVec.toNat = _
  rw [UInt64.toBitVec_shiftRight]
  have e : ((UInt64.ofNat k).toBitVec % 64).toNat = k := by
    show ((BitVec.ofNat 64 k) % 64#64).toNat = k
    rw [BitVec.toNat_umod, BitVec.toNat_ofNat]
    show (k % 18446744073709551616) % 64 = k
    omega
  show ((lI a).toBitVec >>> ((UInt64.ofNat k).toBitVec % 64)).toNat = _
  rw [BitVec.ushiftRight_eq', e, BitVec.toNat_ushiftRight, lI_un, Nat.shiftRight_eq_div_pow]
  have h0 : 0 ≤ a % 18446744073709551616 := Int.emod_nonneg _ (by decide)
  have h1 : a % 18446744073709551616 < 18446744073709551616 := Int.emod_lt_of_pos _ (by decide)
  generalize a % 18446744073709551616 = z at h0 h1
  obtain ⟨n, rfl⟩ := Int.eq_ofNat_of_zero_le h0
  rw [Int.toNat_natCast, ← Int.natCast_ediv]
  have := Nat.div_le_self n (2 ^ k)
  generalize n / 2 ^ k = q at *
  omega
theorem lI_ush8 {a : Int} (h0 : 0 ≤ a) (h1 : a < 9223372036854775808) : ((lI a).toUInt64 >>> ((iI 8).toInt64.toUInt64 &&& Int64.toUInt64 63)).toInt64 = lI (a / 256) := by
  have := lI_ush a (k := 8) (by decide)
  rw [show a % 18446744073709551616 = a by omega] at this
  exact this
theorem lI_ush32 {a : Int} (h0 : 0 ≤ a) (h1 : a < 9223372036854775808) : ((lI a).toUInt64 >>> ((iI 32).toInt64.toUInt64 &&& Int64.toUInt64 63)).toInt64 = lI (a / 4294967296) := by
  have := lI_ush a (k := 32) (by decide)
  rw [show a % 18446744073709551616 = a by omega] at this
  exact this
theorem lI_shl8 (a : Int) : lI a <<< ((iI 8).toInt64 &&& 63) = lI (a * 256) := by
  rw [show ((iI 8).toInt64 &&& 63) = 8 by decide]
  apply lI_inj
  rw [Int64.toBitVec_shiftLeft]
  show ((lI a).toBitVec <<< ((8 : Int64).toBitVec.smod 64)).toNat = _
  rw [show ((8 : Int64).toBitVec.smod 64) = 8#64 by decide, BitVec.shiftLeft_eq', BitVec.toNat_shiftLeft, lI_un, Nat.shiftLeft_eq]
  show _ * 2 ^ 8 % 2 ^ 64 = _
  omega
theorem lI_or8 {a d : Int} (h0 : 0 ≤ d) (h1 : d < 256) : lI (a * 256) ||| lI d = lI (a * 256 + d) := by
  apply lI_inj
  rw [Int64.toBitVec_or, BitVec.toNat_or, lI_un, lI_un]
  obtain ⟨y, hy⟩ : ∃ y : Nat, ((a * 256) % 18446744073709551616).toNat = y * 2 ^ 8 := ⟨((a * 256) % 18446744073709551616).toNat / 256, by omega⟩
  rw [hy, show (d % 18446744073709551616).toNat = d.toNat by omega, ← Nat.shiftLeft_eq, ← Nat.shiftLeft_add_eq_or_of_lt (by omega), Nat.shiftLeft_eq]
  omega
theorem iI_div {a b : Int} (h0 : 0 ≤ a) (h1 : a < 2147483648) (h2 : 0 < b) (h3 : b < 2147483648) : iI a / iI b = iI (a / b) := by
  obtain ⟨n, rfl⟩ := Int.eq_ofNat_of_zero_le h0
  obtain ⟨m, rfl⟩ := Int.eq_ofNat_of_zero_le (Int.le_of_lt h2)
  have := pk_div (a := n) (d := m) (by omega) (by omega) (by omega)
  rw [← Int.natCast_ediv, ← iI_nat, ← iI_nat, ← iI_nat]
  exact this
theorem iI_rem {a b : Int} (h0 : 0 ≤ a) (h1 : a < 2147483648) (h2 : 0 < b) (h3 : b < 2147483648) : iI a - iI a / iI b * iI b = iI (a % b) := by
  obtain ⟨n, rfl⟩ := Int.eq_ofNat_of_zero_le h0
  obtain ⟨m, rfl⟩ := Int.eq_ofNat_of_zero_le (Int.le_of_lt h2)
  have := pk_rem (a := n) (d := m) (by omega) (by omega) (by omega)
  rw [← Int.natCast_emod, ← iI_nat, ← iI_nat, ← iI_nat]
  exact this
/-- names -/
abbrev bOK (r : Int) : Prop := (97 ≤ r % 256 ∧ r % 256 ≤ 122) ∨ (256 ≤ r ∧ 48 ≤ r % 256 ∧ r % 256 ≤ 57)
def cbg : Nat → Int → Prop
  | 0, _ => True
  | k + 1, r => r = 0 ∨ (bOK r ∧ cbg k (r / 256))
def okName (z : Int) : Prop := 0 < z ∧ z < 4294967296 ∧ cbg 4 z
def f4 (z : Int) : Int := if z < 4294967296 then z else if z < 1099511627776 then z / 256 else if z < 281474976710656 then z / 65536 else if z < 72057594037927936 then z / 16777216 else z / 4294967296
def nst (v n t : Int) : Int := if t ≤ n then v * 256 + (48 + n / t % 10) else v
def nmb (z n : Int) : Int := nst (nst (nst (nst z n 1000) n 100) n 10) n 1
def nbh (base : Int) : Nat → Int → Int → Int → Int
  | 0, _, _, _ => 0
  | k + 1, h, m, t => if 48 ≤ h % 256 ∧ h % 256 ≤ 57 then (if h / 256 = base then (if h % 256 = 48 then 0 else m + t * (h % 256 - 48)) else nbh base k (h / 256) (m + t * (h % 256 - 48)) (t * 10)) else 0
theorem nbh_s {base h m t : Int} {k : Nat} (h1 : 48 ≤ h % 256 ∧ h % 256 ≤ 57) (h2 : ¬ h / 256 = base) : nbh base (k + 1) h m t = nbh base k (h / 256) (m + t * (h % 256 - 48)) (t * 10) := by
  rw [nbh, if_pos h1, if_neg h2]
theorem nbh_e {base h m t : Int} {k : Nat} (h1 : 48 ≤ h % 256 ∧ h % 256 ≤ 57) (h2 : h / 256 = base) : nbh base (k + 1) h m t = if h % 256 = 48 then 0 else m + t * (h % 256 - 48) := by
  rw [nbh, if_pos h1, if_pos h2]
theorem nbh_n {base h m t : Int} {k : Nat} (h1 : ¬ (48 ≤ h % 256 ∧ h % 256 ≤ 57)) : nbh base (k + 1) h m t = 0 := by
  rw [nbh, if_neg h1]
theorem cbg_s {r : Int} {k : Nat} (h1 : ¬ r = 0) (h2 : bOK r) : cbg (k + 1) r ↔ cbg k (r / 256) := ⟨fun q => q.elim (fun e => absurd e h1) (fun q => q.2), fun q => Or.inr ⟨h2, q⟩⟩
