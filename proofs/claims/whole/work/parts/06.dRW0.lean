theorem d_RW_init_0 : decode b_RW_init 0 = .ok (.aload_n 0, 1) := by decide +kernel
theorem d_RW_init_1 : decode b_RW_init 1 = .ok (.invokespecial 3, 3) := by decide +kernel
theorem d_RW_init_4 : decode b_RW_init 4 = .ok (.aload_n 0, 1) := by decide +kernel
theorem d_RW_init_5 : decode b_RW_init 5 = .ok (.bipush 16, 2) := by decide +kernel
theorem d_RW_init_7 : decode b_RW_init 7 = .ok (.newarray .int, 2) := by decide +kernel
theorem d_RW_init_9 : decode b_RW_init 9 = .ok (.putfield 9, 3) := by decide +kernel
theorem d_RW_init_12 : decode b_RW_init 12 = .ok (.aload_n 0, 1) := by decide +kernel
theorem d_RW_init_13 : decode b_RW_init 13 = .ok (.bipush 16, 2) := by decide +kernel
theorem d_RW_init_15 : decode b_RW_init 15 = .ok (.newarray .long, 2) := by decide +kernel
theorem d_RW_init_17 : decode b_RW_init 17 = .ok (.putfield 15, 3) := by decide +kernel
theorem d_RW_init_20 : decode b_RW_init 20 = .ok (.aload_n 0, 1) := by decide +kernel
theorem d_RW_init_21 : decode b_RW_init 21 = .ok (.bipush 16, 2) := by decide +kernel
theorem d_RW_init_23 : decode b_RW_init 23 = .ok (.newarray .int, 2) := by decide +kernel
theorem d_RW_init_25 : decode b_RW_init 25 = .ok (.putfield 19, 3) := by decide +kernel
theorem d_RW_init_28 : decode b_RW_init 28 = .ok (.aload_n 0, 1) := by decide +kernel
theorem d_RW_init_29 : decode b_RW_init 29 = .ok (.iconst 0, 1) := by decide +kernel
theorem d_RW_init_30 : decode b_RW_init 30 = .ok (.putfield 22, 3) := by decide +kernel
theorem d_RW_init_33 : decode b_RW_init 33 = .ok (.return_, 1) := by decide +kernel
theorem d_RW_count_0 : decode b_RW_count 0 = .ok (.aload_n 0, 1) := by decide +kernel
theorem d_RW_count_1 : decode b_RW_count 1 = .ok (.getfield 22, 3) := by decide +kernel
theorem d_RW_count_4 : decode b_RW_count 4 = .ok (.ireturn, 1) := by decide +kernel
theorem d_RW_has_0 : decode b_RW_has 0 = .ok (.iload_n 1, 1) := by decide +kernel
theorem d_RW_has_1 : decode b_RW_has 1 = .ok (.ifCond .lt 15, 3) := by decide +kernel
theorem d_RW_has_4 : decode b_RW_has 4 = .ok (.iload_n 1, 1) := by decide +kernel
theorem d_RW_has_5 : decode b_RW_has 5 = .ok (.aload_n 0, 1) := by decide +kernel
theorem d_RW_has_6 : decode b_RW_has 6 = .ok (.getfield 22, 3) := by decide +kernel
theorem d_RW_has_9 : decode b_RW_has 9 = .ok (.if_icmp .ge 7, 3) := by decide +kernel
theorem d_RW_has_12 : decode b_RW_has 12 = .ok (.iconst 1, 1) := by decide +kernel
theorem d_RW_has_13 : decode b_RW_has 13 = .ok (.goto 4, 3) := by decide +kernel
theorem d_RW_has_16 : decode b_RW_has 16 = .ok (.iconst 0, 1) := by decide +kernel
theorem d_RW_has_17 : decode b_RW_has 17 = .ok (.ireturn, 1) := by decide +kernel
theorem d_RW_kind_0 : decode b_RW_kind 0 = .ok (.aload_n 0, 1) := by decide +kernel
theorem d_RW_kind_1 : decode b_RW_kind 1 = .ok (.iload_n 1, 1) := by decide +kernel
theorem d_RW_kind_2 : decode b_RW_kind 2 = .ok (.invokevirtual 26, 3) := by decide +kernel
theorem d_RW_kind_5 : decode b_RW_kind 5 = .ok (.ifCond .eq 12, 3) := by decide +kernel
theorem d_RW_kind_8 : decode b_RW_kind 8 = .ok (.aload_n 0, 1) := by decide +kernel
theorem d_RW_kind_9 : decode b_RW_kind 9 = .ok (.getfield 9, 3) := by decide +kernel
theorem d_RW_kind_12 : decode b_RW_kind 12 = .ok (.iload_n 1, 1) := by decide +kernel
theorem d_RW_kind_13 : decode b_RW_kind 13 = .ok (.iaload, 1) := by decide +kernel
theorem d_RW_kind_14 : decode b_RW_kind 14 = .ok (.goto 4, 3) := by decide +kernel
theorem d_RW_kind_17 : decode b_RW_kind 17 = .ok (.iconst (-1), 1) := by decide +kernel
theorem d_RW_kind_18 : decode b_RW_kind 18 = .ok (.ireturn, 1) := by decide +kernel
theorem d_RW_beside_0 : decode b_RW_beside 0 = .ok (.aload_n 0, 1) := by decide +kernel
theorem d_RW_beside_1 : decode b_RW_beside 1 = .ok (.iload_n 1, 1) := by decide +kernel
theorem d_RW_beside_2 : decode b_RW_beside 2 = .ok (.invokevirtual 26, 3) := by decide +kernel
theorem d_RW_beside_5 : decode b_RW_beside 5 = .ok (.ifCond .eq 12, 3) := by decide +kernel
theorem d_RW_beside_8 : decode b_RW_beside 8 = .ok (.aload_n 0, 1) := by decide +kernel
theorem d_RW_beside_9 : decode b_RW_beside 9 = .ok (.getfield 15, 3) := by decide +kernel
theorem d_RW_beside_12 : decode b_RW_beside 12 = .ok (.iload_n 1, 1) := by decide +kernel
theorem d_RW_beside_13 : decode b_RW_beside 13 = .ok (.laload, 1) := by decide +kernel
theorem d_RW_beside_14 : decode b_RW_beside 14 = .ok (.goto 6, 3) := by decide +kernel
theorem d_RW_beside_17 : decode b_RW_beside 17 = .ok (.ldc2_w 30, 3) := by decide +kernel
theorem d_RW_beside_20 : decode b_RW_beside 20 = .ok (.lreturn, 1) := by decide +kernel
theorem d_RW_size_0 : decode b_RW_size 0 = .ok (.aload_n 0, 1) := by decide +kernel
theorem d_RW_size_1 : decode b_RW_size 1 = .ok (.iload_n 1, 1) := by decide +kernel
theorem d_RW_size_2 : decode b_RW_size 2 = .ok (.invokevirtual 26, 3) := by decide +kernel
theorem d_RW_size_5 : decode b_RW_size 5 = .ok (.ifCond .eq 12, 3) := by decide +kernel
theorem d_RW_size_8 : decode b_RW_size 8 = .ok (.aload_n 0, 1) := by decide +kernel
theorem d_RW_size_9 : decode b_RW_size 9 = .ok (.getfield 19, 3) := by decide +kernel
theorem d_RW_size_12 : decode b_RW_size 12 = .ok (.iload_n 1, 1) := by decide +kernel
theorem d_RW_size_13 : decode b_RW_size 13 = .ok (.iaload, 1) := by decide +kernel
theorem d_RW_size_14 : decode b_RW_size 14 = .ok (.goto 4, 3) := by decide +kernel
theorem d_RW_size_17 : decode b_RW_size 17 = .ok (.iconst 0, 1) := by decide +kernel
theorem d_RW_size_18 : decode b_RW_size 18 = .ok (.ireturn, 1) := by decide +kernel
theorem d_RW_end_0 : decode b_RW_end 0 = .ok (.iload_n 1, 1) := by decide +kernel
theorem d_RW_end_1 : decode b_RW_end 1 = .ok (.aload_n 0, 1) := by decide +kernel
theorem d_RW_end_2 : decode b_RW_end 2 = .ok (.iload_n 1, 1) := by decide +kernel
theorem d_RW_end_3 : decode b_RW_end 3 = .ok (.invokevirtual 32, 3) := by decide +kernel
theorem d_RW_end_6 : decode b_RW_end 6 = .ok (.iadd, 1) := by decide +kernel
theorem d_RW_end_7 : decode b_RW_end 7 = .ok (.ireturn, 1) := by decide +kernel
theorem d_RW_second_0 : decode b_RW_second 0 = .ok (.aload_n 0, 1) := by decide +kernel
theorem d_RW_second_1 : decode b_RW_second 1 = .ok (.iload_n 1, 1) := by decide +kernel
theorem d_RW_second_2 : decode b_RW_second 2 = .ok (.iconst 1, 1) := by decide +kernel
theorem d_RW_second_3 : decode b_RW_second 3 = .ok (.iadd, 1) := by decide +kernel
theorem d_RW_second_4 : decode b_RW_second 4 = .ok (.invokevirtual 36, 3) := by decide +kernel
theorem d_RW_second_7 : decode b_RW_second 7 = .ok (.ireturn, 1) := by decide +kernel
theorem d_RW_clear_0 : decode b_RW_clear 0 = .ok (.aload_n 0, 1) := by decide +kernel
theorem d_RW_clear_1 : decode b_RW_clear 1 = .ok (.iconst 0, 1) := by decide +kernel
theorem d_RW_clear_2 : decode b_RW_clear 2 = .ok (.putfield 22, 3) := by decide +kernel
theorem d_RW_clear_5 : decode b_RW_clear 5 = .ok (.return_, 1) := by decide +kernel
theorem d_RW_add_0 : decode b_RW_add 0 = .ok (.aload_n 0, 1) := by decide +kernel
theorem d_RW_add_1 : decode b_RW_add 1 = .ok (.getfield 22, 3) := by decide +kernel
theorem d_RW_add_4 : decode b_RW_add 4 = .ok (.sipush 3000, 3) := by decide +kernel
theorem d_RW_add_7 : decode b_RW_add 7 = .ok (.if_icmp .lt 4, 3) := by decide +kernel
theorem d_RW_add_10 : decode b_RW_add 10 = .ok (.return_, 1) := by decide +kernel
theorem d_RW_add_11 : decode b_RW_add 11 = .ok (.aload_n 0, 1) := by decide +kernel
theorem d_RW_add_12 : decode b_RW_add 12 = .ok (.aload_n 0, 1) := by decide +kernel
theorem d_RW_add_13 : decode b_RW_add 13 = .ok (.getfield 22, 3) := by decide +kernel
theorem d_RW_add_16 : decode b_RW_add 16 = .ok (.iconst 1, 1) := by decide +kernel
theorem d_RW_add_17 : decode b_RW_add 17 = .ok (.iadd, 1) := by decide +kernel
theorem d_RW_add_18 : decode b_RW_add 18 = .ok (.invokevirtual 39, 3) := by decide +kernel
theorem d_RW_add_21 : decode b_RW_add 21 = .ok (.aload_n 0, 1) := by decide +kernel
theorem d_RW_add_22 : decode b_RW_add 22 = .ok (.getfield 9, 3) := by decide +kernel
theorem d_RW_add_25 : decode b_RW_add 25 = .ok (.aload_n 0, 1) := by decide +kernel
theorem d_RW_add_26 : decode b_RW_add 26 = .ok (.getfield 22, 3) := by decide +kernel
theorem d_RW_add_29 : decode b_RW_add 29 = .ok (.iload_n 1, 1) := by decide +kernel
theorem d_RW_add_30 : decode b_RW_add 30 = .ok (.iastore, 1) := by decide +kernel
theorem d_RW_add_31 : decode b_RW_add 31 = .ok (.aload_n 0, 1) := by decide +kernel
theorem d_RW_add_32 : decode b_RW_add 32 = .ok (.getfield 15, 3) := by decide +kernel
theorem d_RW_add_35 : decode b_RW_add 35 = .ok (.aload_n 0, 1) := by decide +kernel
theorem d_RW_add_36 : decode b_RW_add 36 = .ok (.getfield 22, 3) := by decide +kernel
theorem d_RW_add_39 : decode b_RW_add 39 = .ok (.lload_n 2, 1) := by decide +kernel
theorem d_RW_add_40 : decode b_RW_add 40 = .ok (.lastore, 1) := by decide +kernel
theorem d_RW_add_41 : decode b_RW_add 41 = .ok (.aload_n 0, 1) := by decide +kernel
theorem d_RW_add_42 : decode b_RW_add 42 = .ok (.dup, 1) := by decide +kernel
theorem d_RW_add_43 : decode b_RW_add 43 = .ok (.getfield 22, 3) := by decide +kernel
theorem d_RW_add_46 : decode b_RW_add 46 = .ok (.iconst 1, 1) := by decide +kernel
theorem d_RW_add_47 : decode b_RW_add 47 = .ok (.iadd, 1) := by decide +kernel
theorem d_RW_add_48 : decode b_RW_add 48 = .ok (.putfield 22, 3) := by decide +kernel
theorem d_RW_add_51 : decode b_RW_add 51 = .ok (.return_, 1) := by decide +kernel
theorem d_RW_setBeside_0 : decode b_RW_setBeside 0 = .ok (.aload_n 0, 1) := by decide +kernel
theorem d_RW_setBeside_1 : decode b_RW_setBeside 1 = .ok (.iload_n 1, 1) := by decide +kernel
theorem d_RW_setBeside_2 : decode b_RW_setBeside 2 = .ok (.invokevirtual 26, 3) := by decide +kernel
theorem d_RW_setBeside_5 : decode b_RW_setBeside 5 = .ok (.ifCond .eq 10, 3) := by decide +kernel
theorem d_RW_setBeside_8 : decode b_RW_setBeside 8 = .ok (.aload_n 0, 1) := by decide +kernel
theorem d_RW_setBeside_9 : decode b_RW_setBeside 9 = .ok (.getfield 15, 3) := by decide +kernel
theorem d_RW_setBeside_12 : decode b_RW_setBeside 12 = .ok (.iload_n 1, 1) := by decide +kernel
theorem d_RW_setBeside_13 : decode b_RW_setBeside 13 = .ok (.lload_n 2, 1) := by decide +kernel
theorem d_RW_setBeside_14 : decode b_RW_setBeside 14 = .ok (.lastore, 1) := by decide +kernel
theorem d_RW_setBeside_15 : decode b_RW_setBeside 15 = .ok (.return_, 1) := by decide +kernel
theorem d_RW_become_0 : decode b_RW_become 0 = .ok (.aload_n 0, 1) := by decide +kernel
theorem d_RW_become_1 : decode b_RW_become 1 = .ok (.aload_n 1, 1) := by decide +kernel
theorem d_RW_become_2 : decode b_RW_become 2 = .ok (.getfield 22, 3) := by decide +kernel
theorem d_RW_become_5 : decode b_RW_become 5 = .ok (.invokevirtual 39, 3) := by decide +kernel
theorem d_RW_become_8 : decode b_RW_become 8 = .ok (.aload_n 1, 1) := by decide +kernel
theorem d_RW_become_9 : decode b_RW_become 9 = .ok (.getfield 9, 3) := by decide +kernel
theorem d_RW_become_12 : decode b_RW_become 12 = .ok (.iconst 0, 1) := by decide +kernel
theorem d_RW_become_13 : decode b_RW_become 13 = .ok (.aload_n 0, 1) := by decide +kernel
theorem d_RW_become_14 : decode b_RW_become 14 = .ok (.getfield 9, 3) := by decide +kernel
theorem d_RW_become_17 : decode b_RW_become 17 = .ok (.iconst 0, 1) := by decide +kernel
theorem d_RW_become_18 : decode b_RW_become 18 = .ok (.aload_n 1, 1) := by decide +kernel
theorem d_RW_become_19 : decode b_RW_become 19 = .ok (.getfield 22, 3) := by decide +kernel
theorem d_RW_become_22 : decode b_RW_become 22 = .ok (.invokestatic 43, 3) := by decide +kernel
theorem d_RW_become_25 : decode b_RW_become 25 = .ok (.aload_n 1, 1) := by decide +kernel
theorem d_RW_become_26 : decode b_RW_become 26 = .ok (.getfield 15, 3) := by decide +kernel
theorem d_RW_become_29 : decode b_RW_become 29 = .ok (.iconst 0, 1) := by decide +kernel
theorem d_RW_become_30 : decode b_RW_become 30 = .ok (.aload_n 0, 1) := by decide +kernel
theorem d_RW_become_31 : decode b_RW_become 31 = .ok (.getfield 15, 3) := by decide +kernel
theorem d_RW_become_34 : decode b_RW_become 34 = .ok (.iconst 0, 1) := by decide +kernel
theorem d_RW_become_35 : decode b_RW_become 35 = .ok (.aload_n 1, 1) := by decide +kernel
theorem d_RW_become_36 : decode b_RW_become 36 = .ok (.getfield 22, 3) := by decide +kernel
theorem d_RW_become_39 : decode b_RW_become 39 = .ok (.invokestatic 43, 3) := by decide +kernel
theorem d_RW_become_42 : decode b_RW_become 42 = .ok (.aload_n 0, 1) := by decide +kernel
theorem d_RW_become_43 : decode b_RW_become 43 = .ok (.aload_n 1, 1) := by decide +kernel
theorem d_RW_become_44 : decode b_RW_become 44 = .ok (.getfield 22, 3) := by decide +kernel
theorem d_RW_become_47 : decode b_RW_become 47 = .ok (.putfield 22, 3) := by decide +kernel
theorem d_RW_become_50 : decode b_RW_become 50 = .ok (.return_, 1) := by decide +kernel
theorem d_RW_measure_0 : decode b_RW_measure 0 = .ok (.aload_n 0, 1) := by decide +kernel
theorem d_RW_measure_1 : decode b_RW_measure 1 = .ok (.getfield 22, 3) := by decide +kernel
theorem d_RW_measure_4 : decode b_RW_measure 4 = .ok (.iconst 1, 1) := by decide +kernel
theorem d_RW_measure_5 : decode b_RW_measure 5 = .ok (.isub, 1) := by decide +kernel
theorem d_RW_measure_6 : decode b_RW_measure 6 = .ok (.istore_n 1, 1) := by decide +kernel
theorem d_RW_measure_7 : decode b_RW_measure 7 = .ok (.iload_n 1, 1) := by decide +kernel
theorem d_RW_measure_8 : decode b_RW_measure 8 = .ok (.ifCond .lt 67, 3) := by decide +kernel
theorem d_RW_measure_11 : decode b_RW_measure 11 = .ok (.aload_n 0, 1) := by decide +kernel
theorem d_RW_measure_12 : decode b_RW_measure 12 = .ok (.getfield 19, 3) := by decide +kernel
theorem d_RW_measure_15 : decode b_RW_measure 15 = .ok (.iload_n 1, 1) := by decide +kernel
theorem d_RW_measure_16 : decode b_RW_measure 16 = .ok (.iconst 1, 1) := by decide +kernel
theorem d_RW_measure_17 : decode b_RW_measure 17 = .ok (.iastore, 1) := by decide +kernel
theorem d_RW_measure_18 : decode b_RW_measure 18 = .ok (.aload_n 0, 1) := by decide +kernel
theorem d_RW_measure_19 : decode b_RW_measure 19 = .ok (.getfield 9, 3) := by decide +kernel
theorem d_RW_measure_22 : decode b_RW_measure 22 = .ok (.iload_n 1, 1) := by decide +kernel
theorem d_RW_measure_23 : decode b_RW_measure 23 = .ok (.iaload, 1) := by decide +kernel
theorem d_RW_measure_24 : decode b_RW_measure 24 = .ok (.invokestatic 49, 3) := by decide +kernel
theorem d_RW_measure_27 : decode b_RW_measure 27 = .ok (.ifCond .eq 42, 3) := by decide +kernel
theorem d_RW_measure_30 : decode b_RW_measure 30 = .ok (.aload_n 0, 1) := by decide +kernel
theorem d_RW_measure_31 : decode b_RW_measure 31 = .ok (.iload_n 1, 1) := by decide +kernel
theorem d_RW_measure_32 : decode b_RW_measure 32 = .ok (.invokevirtual 52, 3) := by decide +kernel
theorem d_RW_measure_35 : decode b_RW_measure 35 = .ok (.istore_n 2, 1) := by decide +kernel
theorem d_RW_measure_36 : decode b_RW_measure 36 = .ok (.aload_n 0, 1) := by decide +kernel
theorem d_RW_measure_37 : decode b_RW_measure 37 = .ok (.iload_n 1, 1) := by decide +kernel
theorem d_RW_measure_38 : decode b_RW_measure 38 = .ok (.iconst 1, 1) := by decide +kernel
theorem d_RW_measure_39 : decode b_RW_measure 39 = .ok (.iadd, 1) := by decide +kernel
theorem d_RW_measure_40 : decode b_RW_measure 40 = .ok (.invokevirtual 26, 3) := by decide +kernel
theorem d_RW_measure_43 : decode b_RW_measure 43 = .ok (.ifCond .eq 11, 3) := by decide +kernel
theorem d_RW_measure_46 : decode b_RW_measure 46 = .ok (.aload_n 0, 1) := by decide +kernel
theorem d_RW_measure_47 : decode b_RW_measure 47 = .ok (.iload_n 2, 1) := by decide +kernel
theorem d_RW_measure_48 : decode b_RW_measure 48 = .ok (.invokevirtual 26, 3) := by decide +kernel
theorem d_RW_measure_51 : decode b_RW_measure 51 = .ok (.ifCond .ne 5, 3) := by decide +kernel
theorem d_RW_measure_54 : decode b_RW_measure 54 = .ok (.iconst 0, 1) := by decide +kernel
theorem d_RW_measure_55 : decode b_RW_measure 55 = .ok (.ireturn, 1) := by decide +kernel
theorem d_RW_measure_56 : decode b_RW_measure 56 = .ok (.aload_n 0, 1) := by decide +kernel
theorem d_RW_measure_57 : decode b_RW_measure 57 = .ok (.getfield 19, 3) := by decide +kernel
theorem d_RW_measure_60 : decode b_RW_measure 60 = .ok (.iload_n 1, 1) := by decide +kernel
theorem d_RW_measure_61 : decode b_RW_measure 61 = .ok (.aload_n 0, 1) := by decide +kernel
theorem d_RW_measure_62 : decode b_RW_measure 62 = .ok (.iload_n 2, 1) := by decide +kernel
theorem d_RW_measure_63 : decode b_RW_measure 63 = .ok (.invokevirtual 36, 3) := by decide +kernel
theorem d_RW_measure_66 : decode b_RW_measure 66 = .ok (.iload_n 1, 1) := by decide +kernel
theorem d_RW_measure_67 : decode b_RW_measure 67 = .ok (.isub, 1) := by decide +kernel
theorem d_RW_measure_68 : decode b_RW_measure 68 = .ok (.iastore, 1) := by decide +kernel
theorem d_RW_measure_69 : decode b_RW_measure 69 = .ok (.iinc 1 (-1), 3) := by decide +kernel
theorem d_RW_measure_72 : decode b_RW_measure 72 = .ok (.goto (-65), 3) := by decide +kernel
theorem d_RW_measure_75 : decode b_RW_measure 75 = .ok (.aload_n 0, 1) := by decide +kernel
theorem d_RW_measure_76 : decode b_RW_measure 76 = .ok (.getfield 22, 3) := by decide +kernel
theorem d_RW_measure_79 : decode b_RW_measure 79 = .ok (.ifCond .le 20, 3) := by decide +kernel
theorem d_RW_measure_82 : decode b_RW_measure 82 = .ok (.aload_n 0, 1) := by decide +kernel
theorem d_RW_measure_83 : decode b_RW_measure 83 = .ok (.getfield 19, 3) := by decide +kernel
theorem d_RW_measure_86 : decode b_RW_measure 86 = .ok (.iconst 0, 1) := by decide +kernel
theorem d_RW_measure_87 : decode b_RW_measure 87 = .ok (.iaload, 1) := by decide +kernel
theorem d_RW_measure_88 : decode b_RW_measure 88 = .ok (.aload_n 0, 1) := by decide +kernel
theorem d_RW_measure_89 : decode b_RW_measure 89 = .ok (.getfield 22, 3) := by decide +kernel
theorem d_RW_measure_92 : decode b_RW_measure 92 = .ok (.if_icmp .ne 7, 3) := by decide +kernel
theorem d_RW_measure_95 : decode b_RW_measure 95 = .ok (.iconst 1, 1) := by decide +kernel
theorem d_RW_measure_96 : decode b_RW_measure 96 = .ok (.goto 4, 3) := by decide +kernel
theorem d_RW_measure_99 : decode b_RW_measure 99 = .ok (.iconst 0, 1) := by decide +kernel
theorem d_RW_measure_100 : decode b_RW_measure 100 = .ok (.ireturn, 1) := by decide +kernel
theorem d_RW_makeRoom_0 : decode b_RW_makeRoom 0 = .ok (.iload_n 1, 1) := by decide +kernel
theorem d_RW_makeRoom_1 : decode b_RW_makeRoom 1 = .ok (.aload_n 0, 1) := by decide +kernel
theorem d_RW_makeRoom_2 : decode b_RW_makeRoom 2 = .ok (.getfield 9, 3) := by decide +kernel
theorem d_RW_makeRoom_5 : decode b_RW_makeRoom 5 = .ok (.arraylength, 1) := by decide +kernel
theorem d_RW_makeRoom_6 : decode b_RW_makeRoom 6 = .ok (.if_icmp .le 49, 3) := by decide +kernel
theorem d_RW_makeRoom_9 : decode b_RW_makeRoom 9 = .ok (.aload_n 0, 1) := by decide +kernel
theorem d_RW_makeRoom_10 : decode b_RW_makeRoom 10 = .ok (.getfield 9, 3) := by decide +kernel
theorem d_RW_makeRoom_13 : decode b_RW_makeRoom 13 = .ok (.arraylength, 1) := by decide +kernel
theorem d_RW_makeRoom_14 : decode b_RW_makeRoom 14 = .ok (.iload_n 1, 1) := by decide +kernel
theorem d_RW_makeRoom_15 : decode b_RW_makeRoom 15 = .ok (.invokestatic 55, 3) := by decide +kernel
theorem d_RW_makeRoom_18 : decode b_RW_makeRoom 18 = .ok (.istore_n 2, 1) := by decide +kernel
theorem d_RW_makeRoom_19 : decode b_RW_makeRoom 19 = .ok (.aload_n 0, 1) := by decide +kernel
theorem d_RW_makeRoom_20 : decode b_RW_makeRoom 20 = .ok (.aload_n 0, 1) := by decide +kernel
theorem d_RW_makeRoom_21 : decode b_RW_makeRoom 21 = .ok (.getfield 9, 3) := by decide +kernel
theorem d_RW_makeRoom_24 : decode b_RW_makeRoom 24 = .ok (.iload_n 2, 1) := by decide +kernel
theorem d_RW_makeRoom_25 : decode b_RW_makeRoom 25 = .ok (.invokestatic 59, 3) := by decide +kernel
theorem d_RW_makeRoom_28 : decode b_RW_makeRoom 28 = .ok (.putfield 9, 3) := by decide +kernel
theorem d_RW_makeRoom_31 : decode b_RW_makeRoom 31 = .ok (.aload_n 0, 1) := by decide +kernel
theorem d_RW_makeRoom_32 : decode b_RW_makeRoom 32 = .ok (.aload_n 0, 1) := by decide +kernel
theorem d_RW_makeRoom_33 : decode b_RW_makeRoom 33 = .ok (.getfield 15, 3) := by decide +kernel
theorem d_RW_makeRoom_36 : decode b_RW_makeRoom 36 = .ok (.iload_n 2, 1) := by decide +kernel
theorem d_RW_makeRoom_37 : decode b_RW_makeRoom 37 = .ok (.invokestatic 65, 3) := by decide +kernel
theorem d_RW_makeRoom_40 : decode b_RW_makeRoom 40 = .ok (.putfield 15, 3) := by decide +kernel
theorem d_RW_makeRoom_43 : decode b_RW_makeRoom 43 = .ok (.aload_n 0, 1) := by decide +kernel
theorem d_RW_makeRoom_44 : decode b_RW_makeRoom 44 = .ok (.aload_n 0, 1) := by decide +kernel
theorem d_RW_makeRoom_45 : decode b_RW_makeRoom 45 = .ok (.getfield 19, 3) := by decide +kernel
theorem d_RW_makeRoom_48 : decode b_RW_makeRoom 48 = .ok (.iload_n 2, 1) := by decide +kernel
theorem d_RW_makeRoom_49 : decode b_RW_makeRoom 49 = .ok (.invokestatic 59, 3) := by decide +kernel
theorem d_RW_makeRoom_52 : decode b_RW_makeRoom 52 = .ok (.putfield 19, 3) := by decide +kernel
theorem d_RW_makeRoom_55 : decode b_RW_makeRoom 55 = .ok (.return_, 1) := by decide +kernel
theorem d_AR_copyOfI_0 : decode b_AR_copyOfI 0 = .ok (.iload_n 1, 1) := by decide +kernel
theorem d_AR_copyOfI_1 : decode b_AR_copyOfI 1 = .ok (.aload_n 0, 1) := by decide +kernel
theorem d_AR_copyOfI_2 : decode b_AR_copyOfI 2 = .ok (.arraylength, 1) := by decide +kernel
theorem d_AR_copyOfI_3 : decode b_AR_copyOfI 3 = .ok (.if_icmp .ne 11, 3) := by decide +kernel
theorem d_AR_copyOfI_6 : decode b_AR_copyOfI 6 = .ok (.aload_n 0, 1) := by decide +kernel
theorem d_AR_copyOfI_7 : decode b_AR_copyOfI 7 = .ok (.invokevirtual 316, 3) := by decide +kernel
theorem d_AR_copyOfI_10 : decode b_AR_copyOfI 10 = .ok (.checkcast 317, 3) := by decide +kernel
theorem d_AR_copyOfI_13 : decode b_AR_copyOfI 13 = .ok (.areturn, 1) := by decide +kernel
theorem d_AR_copyOfI_14 : decode b_AR_copyOfI 14 = .ok (.iload_n 1, 1) := by decide +kernel
theorem d_AR_copyOfI_15 : decode b_AR_copyOfI 15 = .ok (.newarray .int, 2) := by decide +kernel
theorem d_AR_copyOfI_17 : decode b_AR_copyOfI 17 = .ok (.astore_n 2, 1) := by decide +kernel
theorem d_AR_copyOfI_18 : decode b_AR_copyOfI 18 = .ok (.aload_n 0, 1) := by decide +kernel
theorem d_AR_copyOfI_19 : decode b_AR_copyOfI 19 = .ok (.iconst 0, 1) := by decide +kernel
theorem d_AR_copyOfI_20 : decode b_AR_copyOfI 20 = .ok (.aload_n 2, 1) := by decide +kernel
theorem d_AR_copyOfI_21 : decode b_AR_copyOfI 21 = .ok (.iconst 0, 1) := by decide +kernel
theorem d_AR_copyOfI_22 : decode b_AR_copyOfI 22 = .ok (.aload_n 0, 1) := by decide +kernel
theorem d_AR_copyOfI_23 : decode b_AR_copyOfI 23 = .ok (.arraylength, 1) := by decide +kernel
theorem d_AR_copyOfI_24 : decode b_AR_copyOfI 24 = .ok (.iload_n 1, 1) := by decide +kernel
theorem d_AR_copyOfI_25 : decode b_AR_copyOfI 25 = .ok (.invokestatic 304, 3) := by decide +kernel
theorem d_AR_copyOfI_28 : decode b_AR_copyOfI 28 = .ok (.invokestatic 150, 3) := by decide +kernel
theorem d_AR_copyOfI_31 : decode b_AR_copyOfI 31 = .ok (.aload_n 2, 1) := by decide +kernel
theorem d_AR_copyOfI_32 : decode b_AR_copyOfI 32 = .ok (.areturn, 1) := by decide +kernel
theorem d_AR_copyOfL_0 : decode b_AR_copyOfL 0 = .ok (.iload_n 1, 1) := by decide +kernel
theorem d_AR_copyOfL_1 : decode b_AR_copyOfL 1 = .ok (.aload_n 0, 1) := by decide +kernel
theorem d_AR_copyOfL_2 : decode b_AR_copyOfL 2 = .ok (.arraylength, 1) := by decide +kernel
theorem d_AR_copyOfL_3 : decode b_AR_copyOfL 3 = .ok (.if_icmp .ne 11, 3) := by decide +kernel
theorem d_AR_copyOfL_6 : decode b_AR_copyOfL 6 = .ok (.aload_n 0, 1) := by decide +kernel
theorem d_AR_copyOfL_7 : decode b_AR_copyOfL 7 = .ok (.invokevirtual 319, 3) := by decide +kernel
theorem d_AR_copyOfL_10 : decode b_AR_copyOfL 10 = .ok (.checkcast 320, 3) := by decide +kernel
theorem d_AR_copyOfL_13 : decode b_AR_copyOfL 13 = .ok (.areturn, 1) := by decide +kernel
theorem d_AR_copyOfL_14 : decode b_AR_copyOfL 14 = .ok (.iload_n 1, 1) := by decide +kernel
theorem d_AR_copyOfL_15 : decode b_AR_copyOfL 15 = .ok (.newarray .long, 2) := by decide +kernel
theorem d_AR_copyOfL_17 : decode b_AR_copyOfL 17 = .ok (.astore_n 2, 1) := by decide +kernel
theorem d_AR_copyOfL_18 : decode b_AR_copyOfL 18 = .ok (.aload_n 0, 1) := by decide +kernel
theorem d_AR_copyOfL_19 : decode b_AR_copyOfL 19 = .ok (.iconst 0, 1) := by decide +kernel
theorem d_AR_copyOfL_20 : decode b_AR_copyOfL 20 = .ok (.aload_n 2, 1) := by decide +kernel
theorem d_AR_copyOfL_21 : decode b_AR_copyOfL 21 = .ok (.iconst 0, 1) := by decide +kernel
theorem d_AR_copyOfL_22 : decode b_AR_copyOfL 22 = .ok (.aload_n 0, 1) := by decide +kernel
theorem d_AR_copyOfL_23 : decode b_AR_copyOfL 23 = .ok (.arraylength, 1) := by decide +kernel
theorem d_AR_copyOfL_24 : decode b_AR_copyOfL 24 = .ok (.iload_n 1, 1) := by decide +kernel
theorem d_AR_copyOfL_25 : decode b_AR_copyOfL 25 = .ok (.invokestatic 304, 3) := by decide +kernel
theorem d_AR_copyOfL_28 : decode b_AR_copyOfL 28 = .ok (.invokestatic 150, 3) := by decide +kernel
theorem d_AR_copyOfL_31 : decode b_AR_copyOfL 31 = .ok (.aload_n 2, 1) := by decide +kernel
theorem d_AR_copyOfL_32 : decode b_AR_copyOfL 32 = .ok (.areturn, 1) := by decide +kernel
