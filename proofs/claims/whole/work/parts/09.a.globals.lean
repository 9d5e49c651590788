abbrev rm_GL_count : Room := { frames := 0, cells := 0, slots := 0, locals := 0 }
set_option maxHeartbeats 4000000 in
set_option maxRecDepth 100000 in
theorem c_GL_count (l : Launch) (E : gE) (g : Nat) (gc : GlT) (gk : glOK gc) : CtI l E y_GL_count b_GL_count 1 (some .int) rm_GL_count [.ref g] (glW E g gc) (uN gc) := by
  obtain ⟨g1, g2⟩ := id gk
  refine g_start (by decide) (Nat.le_of_ble_eq_true rfl) (fun X hX hE hin => ?_)
  refine g_aload_n (pc := 0) hX 0 d_GL_count_0 rfl rfl ?_
  refine g_get (pc := 1) hX f_GL_15 0 rfl rfl d_GL_count_1 ?_
  exact g_iret (pc := 4) hX hE d_GL_count_4 (by decide) (by decide) ⟨rfl, rfl, rfl, rfl⟩

abbrev rm_GL_find : Room := { frames := 0, cells := 0, slots := 0, locals := 0 }
set_option maxHeartbeats 4000000 in
set_option maxRecDepth 100000 in
theorem c_GL_find (l : Launch) (E : gE) (g : Nat) (gc : GlT) (gk : glOK gc) (x : Int) (hx : gil x) : CtI l E y_GL_find b_GL_find 4 (some .int) rm_GL_find [.ref g, .long (lI x)] (glW E g gc) (fnd (uN gc) (uF gc) x) := by
  obtain ⟨g1, g2⟩ := id gk
  refine g_start (by decide) (Nat.le_of_ble_eq_true rfl) (fun X hX hE hin => ?_)
  refine g_iconst (pc := 0) hX d_GL_find_0 ?_
  refine g_istore_n (pc := 1) hX 3 d_GL_find_1 rfl (by decide) ?_
  have loop : ∀ (d : Nat) (j : Nat), uN gc < j + d → j ≤ uN gc → (∀ i, i < j → uF gc i ≠ x) → gW X (glW E g gc) 0 0 2 [(0, .ref g), (1, .long (lI x)), (3, .int (iI (j : Int)))] [] := by
    intro d
    induction d with
    | zero => intro j hd hj hi; omega
    | succ d ih =>
      intro j hd hj hi
      refine g_iload_n (pc := 2) hX 3 d_GL_find_2 rfl rfl ?_
      refine g_aload_n (pc := 3) hX 0 d_GL_find_3 rfl rfl ?_
      refine g_get (pc := 4) hX f_GL_15 0 rfl rfl d_GL_find_4 ?_
      refine g_icmp_ge (pc := 7) (tgt := 29) hX d_GL_find_7 (by decide) (by omega) (by omega) (fun c_1 => ?_) (fun c_1 => ?_)
      · refine g_iconst (pc := 29) hX d_GL_find_29 ?_
        exact g_iret (pc := 30) hX hE d_GL_find_30 (by decide) (by decide) ⟨by rw [fnd_none (fun i q => hi i (by omega))], rfl, rfl, rfl⟩
      · refine g_aload_n (pc := 10) hX 0 d_GL_find_10 rfl rfl ?_
        refine g_get (pc := 11) hX f_GL_9 0 rfl rfl d_GL_find_11 ?_
        refine g_iload_n (pc := 14) hX 3 d_GL_find_14 rfl rfl ?_
        refine g_lald (pc := 15) hX 1 rfl (by omega) d_GL_find_15 ?_
        refine g_lload_n (pc := 16) hX 1 d_GL_find_16 rfl rfl ?_
        have q1 := g2 ((j : Int).toNat)
        refine g_lcmp_ne (pc := 17) (tgt := 23) hX d_GL_find_17 d_GL_find_18 (by decide) (by omega) (by omega) (fun c_2 => ?_) (fun c_2 => ?_)
        · refine g_iinc (pc := 23) hX d_GL_find_23 (by decide) rfl ?_
          refine g_goto (pc := 26) (tgt := 2) hX d_GL_find_26 (by decide) ?_
          refine g_lv [(0, .ref g), (1, .long (lI x)), (3, .int (iI ((j + 1 : Nat) : Int)))] ⟨rfl, rfl, rfl, trivial⟩ ?_
          exact ih (j + 1) (by omega) (by omega) (fun i q => by
            by_cases e : i = j
            · subst e; exact c_2
            · exact hi i (by omega))
        · refine g_iload_n (pc := 21) hX 3 d_GL_find_21 rfl rfl ?_
          exact g_iret (pc := 22) hX hE d_GL_find_22 (by decide) (by decide) ⟨by rw [fnd_at hi (by omega) (show uF gc j = x from Decidable.not_not.mp c_2)], rfl, rfl, rfl⟩
  refine g_lv [(0, .ref g), (1, .long (lI x)), (3, .int (iI ((0 : Nat) : Int)))] ⟨rfl, rfl, rfl, trivial⟩ ?_
  exact loop (uN gc + 1) 0 (by omega) (by omega) (fun i q => by omega)
  

abbrev rm_GL_add : Room := { frames := 1, cells := 0, slots := 0, locals := 23 }
set_option maxHeartbeats 4000000 in
set_option maxRecDepth 100000 in
theorem c_GL_add (l : Launch) (E : gE) (g : Nat) (gc : GlT) (gk : glOK gc) (x : Int) (hx : gil x) : Ct l E y_GL_add b_GL_add 3 (some .int) rm_GL_add [.ref g, .long (lI x)] (glW E g gc) (fun v w dc ds => ∃ γ, v = some (.int (iI (if uN gc < 200 ∧ fnd (uN gc) (uF gc) x = -1 then (uN gc : Int) else -1))) ∧ w = glW E g γ ∧ glOK γ ∧ (γ = (if uN gc < 200 ∧ fnd (uN gc) (uF gc) x = -1 then (gc.1, uN gc + 1, uZ (uF gc) (uN gc) x) else gc) ∧ dc = 0 ∧ ds = 0)) := by
  obtain ⟨g1, g2⟩ := id gk
  have hfi := fnd_in (uN gc) (uF gc) x
  refine g_start (by decide) (Nat.le_of_ble_eq_true rfl) (fun X hX hE hin => ?_)
  refine g_aload_n (pc := 0) hX 0 d_GL_add_0 rfl rfl ?_
  refine g_get (pc := 1) hX f_GL_15 0 rfl rfl d_GL_add_1 ?_
  refine g_sipush (pc := 4) hX 200 d_GL_add_4 (by decide) ?_
  refine g_icmp_ge (pc := 7) (tgt := 19) hX d_GL_add_7 (by decide) (by omega) (by omega) (fun c_1 => ?_) (fun c_1 => ?_)
  · refine g_iconst (pc := 19) hX d_GL_add_19 ?_
    exact g_iret (pc := 20) hX hE d_GL_add_20 (by decide) (by decide) ⟨gc, by rw [if_neg (by omega)], rfl, gk, by rw [if_neg (by omega)], rfl, rfl⟩
  · refine g_aload_n (pc := 10) hX 0 d_GL_add_10 rfl rfl ?_
    refine g_lload_n (pc := 11) hX 1 d_GL_add_11 rfl rfl ?_
    refine g_iV (pc := 12) hX (c_GL_find l E g gc gk _ (by omega)) gy_GL_find gv_GL_find w_144 rfl (by decide) (by decide) [0, 1] rfl rfl rfl rfl rfl _ rfl (Nat.le_of_ble_eq_true rfl) d_GL_add_12 (by decide) (by decide) ?_
    refine g_iconst (pc := 15) hX d_GL_add_15 ?_
    refine g_icmp_eq (pc := 16) (tgt := 21) hX d_GL_add_16 (by decide) (by omega) (by omega) (fun c_2 => ?_) (fun c_2 => ?_)
    · refine g_aload_n (pc := 21) hX 0 d_GL_add_21 rfl rfl ?_
      refine g_get (pc := 22) hX f_GL_9 0 rfl rfl d_GL_add_22 ?_
      refine g_aload_n (pc := 25) hX 0 d_GL_add_25 rfl rfl ?_
      refine g_get (pc := 26) hX f_GL_15 0 rfl rfl d_GL_add_26 ?_
      refine g_lload_n (pc := 29) hX 1 d_GL_add_29 rfl rfl ?_
      refine g_last (pc := 30) hX 1 rfl (by omega) d_GL_add_30 ?_
      refine g_aload_n (pc := 31) hX 0 d_GL_add_31 rfl rfl ?_
      refine g_dup (pc := 32) hX d_GL_add_32 rfl ?_
      refine g_get (pc := 33) hX f_GL_15 0 rfl rfl d_GL_add_33 ?_
      refine g_iconst (pc := 36) hX d_GL_add_36 ?_
      refine g_iadd (pc := 37) hX d_GL_add_37 ?_
      refine g_put (pc := 38) hX f_GL_15 gt_GL 0 rfl rfl rfl rfl (Nat.le_of_ble_eq_true rfl) d_GL_add_38 ?_
      refine g_aload_n (pc := 41) hX 0 d_GL_add_41 rfl rfl ?_
      refine g_get (pc := 42) hX f_GL_15 0 rfl rfl d_GL_add_42 ?_
      refine g_iconst (pc := 45) hX d_GL_add_45 ?_
      refine g_isub (pc := 46) hX d_GL_add_46 ?_
      exact g_iret (pc := 47) hX hE d_GL_add_47 (by decide) (by decide) ⟨(gc.1, uN gc + 1, uZ (uF gc) (uN gc) x), by rw [if_pos (by omega)]; congr 3; show (uN gc : Int) + 1 - 1 = _; omega, rfl, ⟨by show uN gc + 1 ≤ 200; omega, uZ_gil g2 hx⟩, by rw [if_pos (by omega)], rfl, rfl⟩
    · refine g_iconst (pc := 19) hX d_GL_add_19 ?_
      exact g_iret (pc := 20) hX hE d_GL_add_20 (by decide) (by decide) ⟨gc, by rw [if_neg (by omega)], rfl, gk, by rw [if_neg (by omega)], rfl, rfl⟩

abbrev rm_GL_name : Room := { frames := 0, cells := 0, slots := 0, locals := 0 }
set_option maxHeartbeats 4000000 in
set_option maxRecDepth 100000 in
theorem c_GL_name (l : Launch) (E : gE) (g : Nat) (gc : GlT) (gk : glOK gc) (x : Int) (hx : gil x) : CtL l E y_GL_name b_GL_name 3 (some .long) rm_GL_name [.ref g, .long (lI x)] (glW E g gc) (if 0 ≤ x ∧ x < uN gc then uF gc x.toNat else 0) := by
  obtain ⟨g1, g2⟩ := id gk
  refine g_start (by decide) (Nat.le_of_ble_eq_true rfl) (fun X hX hE hin => ?_)
  refine g_lload_n (pc := 0) hX 1 d_GL_name_0 rfl rfl ?_
  refine g_lconst (pc := 1) hX 0 d_GL_name_1 (by decide) ?_
  refine g_lcmp_lt (pc := 2) (tgt := 26) hX d_GL_name_2 d_GL_name_3 (by decide) (by omega) (by omega) (fun c_1 => ?_) (fun c_1 => ?_)
  · refine g_lconst (pc := 26) hX 0 d_GL_name_26 (by decide) ?_
    exact g_lret (pc := 27) hX hE d_GL_name_27 (by decide) (by decide) ⟨by rw [if_neg (by omega)], rfl, rfl, rfl⟩
  · refine g_lload_n (pc := 6) hX 1 d_GL_name_6 rfl rfl ?_
    refine g_aload_n (pc := 7) hX 0 d_GL_name_7 rfl rfl ?_
    refine g_get (pc := 8) hX f_GL_15 0 rfl rfl d_GL_name_8 ?_
    refine g_i2l (pc := 11) hX d_GL_name_11 (by omega) ?_
    refine g_lcmp_ge (pc := 12) (tgt := 26) hX d_GL_name_12 d_GL_name_13 (by decide) (by omega) (by omega) (fun c_2 => ?_) (fun c_2 => ?_)
    · refine g_lconst (pc := 26) hX 0 d_GL_name_26 (by decide) ?_
      exact g_lret (pc := 27) hX hE d_GL_name_27 (by decide) (by decide) ⟨by rw [if_neg (by omega)], rfl, rfl, rfl⟩
    · refine g_aload_n (pc := 16) hX 0 d_GL_name_16 rfl rfl ?_
      refine g_get (pc := 17) hX f_GL_9 0 rfl rfl d_GL_name_17 ?_
      refine g_lload_n (pc := 20) hX 1 d_GL_name_20 rfl rfl ?_
      refine g_l2i (pc := 21) hX d_GL_name_21 ?_
      refine g_lald (pc := 22) hX 1 rfl (by omega) d_GL_name_22 ?_
      refine g_goto (pc := 23) (tgt := 27) hX d_GL_name_23 (by decide) ?_
      exact g_lret (pc := 27) hX hE d_GL_name_27 (by decide) (by decide) ⟨by rw [if_pos (by omega)], rfl, rfl, rfl⟩

abbrev rm_GL_init : Room := { frames := 1, cells := 1, slots := 200, locals := 20 }
set_option maxHeartbeats 4000000 in
set_option maxRecDepth 100000 in
theorem c_GL_init (l : Launch) (E : gE) (g : Nat) : Ct l E y_GL_init b_GL_init 1 none rm_GL_init [.ref g] ([(g, .inr (0, [.null, .int 0]))]) (fun v w dc ds => ∃ γ, v = none ∧ w = glW E g γ ∧ glOK γ ∧ (uN γ = 0 ∧ dc = 1 ∧ ds = 200)) := by
  refine g_start (by decide) (Nat.le_of_ble_eq_true rfl) (fun X hX hE hin => ?_)
  replace hin := hin rfl
  refine g_aload_n (pc := 0) hX 0 d_GL_init_0 rfl rfl ?_
  refine g_objInit (pc := 1) hX w_24 w_17 w_18 (by decide) (by decide) (Nat.le_of_ble_eq_true rfl) d_GL_init_1 ?_
  refine g_aload_n (pc := 4) hX 0 d_GL_init_4 rfl rfl ?_
  refine g_sipush (pc := 5) hX 200 d_GL_init_5 (by decide) ?_
  refine g_newL (pc := 8) hX w_32 (by omega) (by omega) (by decide) (by decide) d_GL_init_8 (fun q8 => ?_)
  refine g_putF (pc := 10) hX hin f_GL_9 gt_GL 0 rfl rfl rfl rfl rfl (Nat.le_of_ble_eq_true rfl) d_GL_init_10 ?_
  refine g_aload_n (pc := 13) hX 0 d_GL_init_13 rfl rfl ?_
  refine g_iconst (pc := 14) hX d_GL_init_14 ?_
  refine g_put (pc := 15) hX f_GL_15 gt_GL 0 rfl rfl rfl rfl (Nat.le_of_ble_eq_true rfl) d_GL_init_15 ?_
  refine g_sub (glW E g (q8, 0, fun _ => 0)) [0, 1] rfl rfl ?_
  exact g_vret (pc := 18) hX hE d_GL_init_18 (by decide) (by decide) ⟨_, rfl, rfl, ⟨by show (0 : Nat) ≤ 200; decide, fun _ => ⟨by show (-9223372036854775808 : Int) ≤ 0; decide, by show (0 : Int) < 9223372036854775808; decide⟩⟩, rfl, rfl, rfl⟩
