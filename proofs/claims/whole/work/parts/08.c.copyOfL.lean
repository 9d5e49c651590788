abbrev rm_AR_copyOfL : Room := { frames := 1, cells := 1, slots := 6400, locals := 26 }
set_option maxHeartbeats 4000000 in
set_option maxRecDepth 100000 in
theorem c_AR_copyOfL (l : Launch) (E : gE) (a : Nat) (m : Nat) (f : Nat → Int) (n : Int) (hn : gin n) (h0 : (m : Int) < n ∧ n ≤ 6400) : Ct l E y_AR_copyOfL b_AR_copyOfL 3 (some (.array .long)) rm_AR_copyOfL [.ref a, .int (iI n)] ([(a, aL E m f)]) (fun v w dc ds => ∃ q, v = some (.ref q) ∧ w = [(a, aL E m f), (q, aL E n.toNat (va_cpy f (fun _ => 0) 0 0 m))] ∧ dc = 1 ∧ ds = n.toNat) := by
  refine g_start (by decide) (Nat.le_of_ble_eq_true rfl) (fun X hX hE hin => ?_)
  refine g_iload_n (pc := 0) hX 1 d_AR_copyOfL_0 rfl rfl ?_
  refine g_aload_n (pc := 1) hX 0 d_AR_copyOfL_1 rfl rfl ?_
  refine g_alenL (pc := 2) hX 0 rfl d_AR_copyOfL_2 ?_
  refine g_icmp_ne (pc := 3) (tgt := 14) hX d_AR_copyOfL_3 (by decide) (by omega) (by omega) (fun c_1 => ?_) (fun c_1 => ?_)
  · refine g_iload_n (pc := 14) hX 1 d_AR_copyOfL_14 rfl rfl ?_
    refine g_newL (pc := 15) hX w_32 (by omega) (by omega) (show _ + 1 ≤ 1 by omega) (show _ + _ ≤ 6400 by omega) d_AR_copyOfL_15 (fun q15 => ?_)
    refine g_astore_n (pc := 17) hX 2 d_AR_copyOfL_17 rfl (by decide) ?_
    refine g_aload_n (pc := 18) hX 0 d_AR_copyOfL_18 rfl rfl ?_
    refine g_iconst (pc := 19) hX d_AR_copyOfL_19 ?_
    refine g_aload_n (pc := 20) hX 2 d_AR_copyOfL_20 rfl rfl ?_
    refine g_iconst (pc := 21) hX d_AR_copyOfL_21 ?_
    refine g_aload_n (pc := 22) hX 0 d_AR_copyOfL_22 rfl rfl ?_
    refine g_alenL (pc := 23) hX 0 rfl d_AR_copyOfL_23 ?_
    refine g_iload_n (pc := 24) hX 1 d_AR_copyOfL_24 rfl rfl ?_
    refine g_mmin (pc := 25) hX w_184 w_185 w_8 w_186 (by decide) (by decide) (Nat.le_of_ble_eq_true rfl) (by decide) (show _ ≤ 6400 by omega) (by omega) (by omega) d_AR_copyOfL_25 ?_
    rw [show (if n < (m : Int) then n else (m : Int)) = (m : Int) from if_neg (by omega)]
    refine g_copyL (pc := 28) hX w_187 w_189 w_188 w_10 0 1 rfl rfl (by omega) (by decide) (by decide) (Nat.le_of_ble_eq_true rfl) d_AR_copyOfL_28 ?_
    refine g_aload_n (pc := 31) hX 2 d_AR_copyOfL_31 rfl rfl ?_
    exact g_aret (pc := 32) hX hE (Or.inr ⟨_, rfl⟩) d_AR_copyOfL_32 (by decide) (show _ ≤ 6400 by omega) ⟨q15, rfl, rfl, by omega, by omega⟩
  · exact absurd c_1 (by omega)
