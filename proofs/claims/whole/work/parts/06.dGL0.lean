theorem d_GL_init_0 : decode b_GL_init 0 = .ok (.aload_n 0, 1) := by decide +kernel
theorem d_GL_init_1 : decode b_GL_init 1 = .ok (.invokespecial 3, 3) := by decide +kernel
theorem d_GL_init_4 : decode b_GL_init 4 = .ok (.aload_n 0, 1) := by decide +kernel
theorem d_GL_init_5 : decode b_GL_init 5 = .ok (.sipush 200, 3) := by decide +kernel
theorem d_GL_init_8 : decode b_GL_init 8 = .ok (.newarray .long, 2) := by decide +kernel
theorem d_GL_init_10 : decode b_GL_init 10 = .ok (.putfield 9, 3) := by decide +kernel
theorem d_GL_init_13 : decode b_GL_init 13 = .ok (.aload_n 0, 1) := by decide +kernel
theorem d_GL_init_14 : decode b_GL_init 14 = .ok (.iconst 0, 1) := by decide +kernel
theorem d_GL_init_15 : decode b_GL_init 15 = .ok (.putfield 15, 3) := by decide +kernel
theorem d_GL_init_18 : decode b_GL_init 18 = .ok (.return_, 1) := by decide +kernel
theorem d_GL_count_0 : decode b_GL_count 0 = .ok (.aload_n 0, 1) := by decide +kernel
theorem d_GL_count_1 : decode b_GL_count 1 = .ok (.getfield 15, 3) := by decide +kernel
theorem d_GL_count_4 : decode b_GL_count 4 = .ok (.ireturn, 1) := by decide +kernel
theorem d_GL_add_0 : decode b_GL_add 0 = .ok (.aload_n 0, 1) := by decide +kernel
theorem d_GL_add_1 : decode b_GL_add 1 = .ok (.getfield 15, 3) := by decide +kernel
theorem d_GL_add_4 : decode b_GL_add 4 = .ok (.sipush 200, 3) := by decide +kernel
theorem d_GL_add_7 : decode b_GL_add 7 = .ok (.if_icmp .ge 12, 3) := by decide +kernel
theorem d_GL_add_10 : decode b_GL_add 10 = .ok (.aload_n 0, 1) := by decide +kernel
theorem d_GL_add_11 : decode b_GL_add 11 = .ok (.lload_n 1, 1) := by decide +kernel
theorem d_GL_add_12 : decode b_GL_add 12 = .ok (.invokevirtual 19, 3) := by decide +kernel
theorem d_GL_add_15 : decode b_GL_add 15 = .ok (.iconst (-1), 1) := by decide +kernel
theorem d_GL_add_16 : decode b_GL_add 16 = .ok (.if_icmp .eq 5, 3) := by decide +kernel
theorem d_GL_add_19 : decode b_GL_add 19 = .ok (.iconst (-1), 1) := by decide +kernel
theorem d_GL_add_20 : decode b_GL_add 20 = .ok (.ireturn, 1) := by decide +kernel
theorem d_GL_add_21 : decode b_GL_add 21 = .ok (.aload_n 0, 1) := by decide +kernel
theorem d_GL_add_22 : decode b_GL_add 22 = .ok (.getfield 9, 3) := by decide +kernel
theorem d_GL_add_25 : decode b_GL_add 25 = .ok (.aload_n 0, 1) := by decide +kernel
theorem d_GL_add_26 : decode b_GL_add 26 = .ok (.getfield 15, 3) := by decide +kernel
theorem d_GL_add_29 : decode b_GL_add 29 = .ok (.lload_n 1, 1) := by decide +kernel
theorem d_GL_add_30 : decode b_GL_add 30 = .ok (.lastore, 1) := by decide +kernel
theorem d_GL_add_31 : decode b_GL_add 31 = .ok (.aload_n 0, 1) := by decide +kernel
theorem d_GL_add_32 : decode b_GL_add 32 = .ok (.dup, 1) := by decide +kernel
theorem d_GL_add_33 : decode b_GL_add 33 = .ok (.getfield 15, 3) := by decide +kernel
theorem d_GL_add_36 : decode b_GL_add 36 = .ok (.iconst 1, 1) := by decide +kernel
theorem d_GL_add_37 : decode b_GL_add 37 = .ok (.iadd, 1) := by decide +kernel
theorem d_GL_add_38 : decode b_GL_add 38 = .ok (.putfield 15, 3) := by decide +kernel
theorem d_GL_add_41 : decode b_GL_add 41 = .ok (.aload_n 0, 1) := by decide +kernel
theorem d_GL_add_42 : decode b_GL_add 42 = .ok (.getfield 15, 3) := by decide +kernel
theorem d_GL_add_45 : decode b_GL_add 45 = .ok (.iconst 1, 1) := by decide +kernel
theorem d_GL_add_46 : decode b_GL_add 46 = .ok (.isub, 1) := by decide +kernel
theorem d_GL_add_47 : decode b_GL_add 47 = .ok (.ireturn, 1) := by decide +kernel
theorem d_GL_find_0 : decode b_GL_find 0 = .ok (.iconst 0, 1) := by decide +kernel
theorem d_GL_find_1 : decode b_GL_find 1 = .ok (.istore_n 3, 1) := by decide +kernel
theorem d_GL_find_2 : decode b_GL_find 2 = .ok (.iload_n 3, 1) := by decide +kernel
theorem d_GL_find_3 : decode b_GL_find 3 = .ok (.aload_n 0, 1) := by decide +kernel
theorem d_GL_find_4 : decode b_GL_find 4 = .ok (.getfield 15, 3) := by decide +kernel
theorem d_GL_find_7 : decode b_GL_find 7 = .ok (.if_icmp .ge 22, 3) := by decide +kernel
theorem d_GL_find_10 : decode b_GL_find 10 = .ok (.aload_n 0, 1) := by decide +kernel
theorem d_GL_find_11 : decode b_GL_find 11 = .ok (.getfield 9, 3) := by decide +kernel
theorem d_GL_find_14 : decode b_GL_find 14 = .ok (.iload_n 3, 1) := by decide +kernel
theorem d_GL_find_15 : decode b_GL_find 15 = .ok (.laload, 1) := by decide +kernel
theorem d_GL_find_16 : decode b_GL_find 16 = .ok (.lload_n 1, 1) := by decide +kernel
theorem d_GL_find_17 : decode b_GL_find 17 = .ok (.lcmp, 1) := by decide +kernel
theorem d_GL_find_18 : decode b_GL_find 18 = .ok (.ifCond .ne 5, 3) := by decide +kernel
theorem d_GL_find_21 : decode b_GL_find 21 = .ok (.iload_n 3, 1) := by decide +kernel
theorem d_GL_find_22 : decode b_GL_find 22 = .ok (.ireturn, 1) := by decide +kernel
theorem d_GL_find_23 : decode b_GL_find 23 = .ok (.iinc 3 1, 3) := by decide +kernel
theorem d_GL_find_26 : decode b_GL_find 26 = .ok (.goto (-24), 3) := by decide +kernel
theorem d_GL_find_29 : decode b_GL_find 29 = .ok (.iconst (-1), 1) := by decide +kernel
theorem d_GL_find_30 : decode b_GL_find 30 = .ok (.ireturn, 1) := by decide +kernel
theorem d_GL_name_0 : decode b_GL_name 0 = .ok (.lload_n 1, 1) := by decide +kernel
theorem d_GL_name_1 : decode b_GL_name 1 = .ok (.lconst 0, 1) := by decide +kernel
theorem d_GL_name_2 : decode b_GL_name 2 = .ok (.lcmp, 1) := by decide +kernel
theorem d_GL_name_3 : decode b_GL_name 3 = .ok (.ifCond .lt 23, 3) := by decide +kernel
theorem d_GL_name_6 : decode b_GL_name 6 = .ok (.lload_n 1, 1) := by decide +kernel
theorem d_GL_name_7 : decode b_GL_name 7 = .ok (.aload_n 0, 1) := by decide +kernel
theorem d_GL_name_8 : decode b_GL_name 8 = .ok (.getfield 15, 3) := by decide +kernel
theorem d_GL_name_11 : decode b_GL_name 11 = .ok (.i2l, 1) := by decide +kernel
theorem d_GL_name_12 : decode b_GL_name 12 = .ok (.lcmp, 1) := by decide +kernel
theorem d_GL_name_13 : decode b_GL_name 13 = .ok (.ifCond .ge 13, 3) := by decide +kernel
theorem d_GL_name_16 : decode b_GL_name 16 = .ok (.aload_n 0, 1) := by decide +kernel
theorem d_GL_name_17 : decode b_GL_name 17 = .ok (.getfield 9, 3) := by decide +kernel
theorem d_GL_name_20 : decode b_GL_name 20 = .ok (.lload_n 1, 1) := by decide +kernel
theorem d_GL_name_21 : decode b_GL_name 21 = .ok (.l2i, 1) := by decide +kernel
theorem d_GL_name_22 : decode b_GL_name 22 = .ok (.laload, 1) := by decide +kernel
theorem d_GL_name_23 : decode b_GL_name 23 = .ok (.goto 4, 3) := by decide +kernel
theorem d_GL_name_26 : decode b_GL_name 26 = .ok (.lconst 0, 1) := by decide +kernel
theorem d_GL_name_27 : decode b_GL_name 27 = .ok (.lreturn, 1) := by decide +kernel
