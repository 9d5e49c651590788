theorem d_SC_init_0 : decode b_SC_init 0 = .ok (.aload_n 0, 1) := by decide +kernel
theorem d_SC_init_1 : decode b_SC_init 1 = .ok (.invokespecial 3, 3) := by decide +kernel
theorem d_SC_init_4 : decode b_SC_init 4 = .ok (.aload_n 0, 1) := by decide +kernel
theorem d_SC_init_5 : decode b_SC_init 5 = .ok (.iconst 0, 1) := by decide +kernel
theorem d_SC_init_6 : decode b_SC_init 6 = .ok (.putfield 9, 3) := by decide +kernel
theorem d_SC_init_9 : decode b_SC_init 9 = .ok (.aload_n 0, 1) := by decide +kernel
theorem d_SC_init_10 : decode b_SC_init 10 = .ok (.bipush 16, 2) := by decide +kernel
theorem d_SC_init_12 : decode b_SC_init 12 = .ok (.newarray .int, 2) := by decide +kernel
theorem d_SC_init_14 : decode b_SC_init 14 = .ok (.putfield 15, 3) := by decide +kernel
theorem d_SC_init_17 : decode b_SC_init 17 = .ok (.aload_n 0, 1) := by decide +kernel
theorem d_SC_init_18 : decode b_SC_init 18 = .ok (.bipush 16, 2) := by decide +kernel
theorem d_SC_init_20 : decode b_SC_init 20 = .ok (.newarray .int, 2) := by decide +kernel
theorem d_SC_init_22 : decode b_SC_init 22 = .ok (.putfield 19, 3) := by decide +kernel
theorem d_SC_init_25 : decode b_SC_init 25 = .ok (.aload_n 0, 1) := by decide +kernel
theorem d_SC_init_26 : decode b_SC_init 26 = .ok (.bipush 16, 2) := by decide +kernel
theorem d_SC_init_28 : decode b_SC_init 28 = .ok (.newarray .int, 2) := by decide +kernel
theorem d_SC_init_30 : decode b_SC_init 30 = .ok (.putfield 22, 3) := by decide +kernel
theorem d_SC_init_33 : decode b_SC_init 33 = .ok (.return_, 1) := by decide +kernel
theorem d_SC_read_0 : decode b_SC_read 0 = .ok (.aload_n 0, 1) := by decide +kernel
theorem d_SC_read_1 : decode b_SC_read 1 = .ok (.aload_n 1, 1) := by decide +kernel
theorem d_SC_read_2 : decode b_SC_read 2 = .ok (.invokevirtual 25, 3) := by decide +kernel
theorem d_SC_read_5 : decode b_SC_read 5 = .ok (.invokevirtual 30, 3) := by decide +kernel
theorem d_SC_read_8 : decode b_SC_read 8 = .ok (.aload_n 0, 1) := by decide +kernel
theorem d_SC_read_9 : decode b_SC_read 9 = .ok (.aload_n 1, 1) := by decide +kernel
theorem d_SC_read_10 : decode b_SC_read 10 = .ok (.invokevirtual 25, 3) := by decide +kernel
theorem d_SC_read_13 : decode b_SC_read 13 = .ok (.putfield 9, 3) := by decide +kernel
theorem d_SC_read_16 : decode b_SC_read 16 = .ok (.aload_n 0, 1) := by decide +kernel
theorem d_SC_read_17 : decode b_SC_read 17 = .ok (.iconst 0, 1) := by decide +kernel
theorem d_SC_read_18 : decode b_SC_read 18 = .ok (.iconst (-1), 1) := by decide +kernel
theorem d_SC_read_19 : decode b_SC_read 19 = .ok (.invokevirtual 34, 3) := by decide +kernel
theorem d_SC_read_22 : decode b_SC_read 22 = .ok (.iconst 0, 1) := by decide +kernel
theorem d_SC_read_23 : decode b_SC_read 23 = .ok (.istore_n 2, 1) := by decide +kernel
theorem d_SC_read_24 : decode b_SC_read 24 = .ok (.iload_n 2, 1) := by decide +kernel
theorem d_SC_read_25 : decode b_SC_read 25 = .ok (.aload_n 0, 1) := by decide +kernel
theorem d_SC_read_26 : decode b_SC_read 26 = .ok (.getfield 9, 3) := by decide +kernel
theorem d_SC_read_29 : decode b_SC_read 29 = .ok (.if_icmp .ge 83, 3) := by decide +kernel
theorem d_SC_read_32 : decode b_SC_read 32 = .ok (.aload_n 0, 1) := by decide +kernel
theorem d_SC_read_33 : decode b_SC_read 33 = .ok (.getfield 15, 3) := by decide +kernel
theorem d_SC_read_36 : decode b_SC_read 36 = .ok (.iload_n 2, 1) := by decide +kernel
theorem d_SC_read_37 : decode b_SC_read 37 = .ok (.iaload, 1) := by decide +kernel
theorem d_SC_read_38 : decode b_SC_read 38 = .ok (.istore_n 3, 1) := by decide +kernel
theorem d_SC_read_39 : decode b_SC_read 39 = .ok (.aload_n 0, 1) := by decide +kernel
theorem d_SC_read_40 : decode b_SC_read 40 = .ok (.getfield 19, 3) := by decide +kernel
theorem d_SC_read_43 : decode b_SC_read 43 = .ok (.iload_n 2, 1) := by decide +kernel
theorem d_SC_read_44 : decode b_SC_read 44 = .ok (.iload_n 3, 1) := by decide +kernel
theorem d_SC_read_45 : decode b_SC_read 45 = .ok (.iconst (-1), 1) := by decide +kernel
theorem d_SC_read_46 : decode b_SC_read 46 = .ok (.if_icmp .ne 7, 3) := by decide +kernel
theorem d_SC_read_49 : decode b_SC_read 49 = .ok (.iconst 0, 1) := by decide +kernel
theorem d_SC_read_50 : decode b_SC_read 50 = .ok (.goto 10, 3) := by decide +kernel
theorem d_SC_read_53 : decode b_SC_read 53 = .ok (.aload_n 0, 1) := by decide +kernel
theorem d_SC_read_54 : decode b_SC_read 54 = .ok (.iload_n 3, 1) := by decide +kernel
theorem d_SC_read_55 : decode b_SC_read 55 = .ok (.invokevirtual 38, 3) := by decide +kernel
theorem d_SC_read_58 : decode b_SC_read 58 = .ok (.iconst 1, 1) := by decide +kernel
theorem d_SC_read_59 : decode b_SC_read 59 = .ok (.iadd, 1) := by decide +kernel
theorem d_SC_read_60 : decode b_SC_read 60 = .ok (.iastore, 1) := by decide +kernel
theorem d_SC_read_61 : decode b_SC_read 61 = .ok (.aload_n 1, 1) := by decide +kernel
theorem d_SC_read_62 : decode b_SC_read 62 = .ok (.iload_n 2, 1) := by decide +kernel
theorem d_SC_read_63 : decode b_SC_read 63 = .ok (.invokevirtual 42, 3) := by decide +kernel
theorem d_SC_read_66 : decode b_SC_read 66 = .ok (.istore 4, 2) := by decide +kernel
theorem d_SC_read_68 : decode b_SC_read 68 = .ok (.iload 4, 2) := by decide +kernel
theorem d_SC_read_70 : decode b_SC_read 70 = .ok (.invokestatic 45, 3) := by decide +kernel
theorem d_SC_read_73 : decode b_SC_read 73 = .ok (.ifCond .eq 33, 3) := by decide +kernel
theorem d_SC_read_76 : decode b_SC_read 76 = .ok (.aload_n 0, 1) := by decide +kernel
theorem d_SC_read_77 : decode b_SC_read 77 = .ok (.iload_n 2, 1) := by decide +kernel
theorem d_SC_read_78 : decode b_SC_read 78 = .ok (.iconst 1, 1) := by decide +kernel
theorem d_SC_read_79 : decode b_SC_read 79 = .ok (.iadd, 1) := by decide +kernel
theorem d_SC_read_80 : decode b_SC_read 80 = .ok (.iload_n 3, 1) := by decide +kernel
theorem d_SC_read_81 : decode b_SC_read 81 = .ok (.invokevirtual 34, 3) := by decide +kernel
theorem d_SC_read_84 : decode b_SC_read 84 = .ok (.aload_n 0, 1) := by decide +kernel
theorem d_SC_read_85 : decode b_SC_read 85 = .ok (.aload_n 1, 1) := by decide +kernel
theorem d_SC_read_86 : decode b_SC_read 86 = .ok (.iload_n 2, 1) := by decide +kernel
theorem d_SC_read_87 : decode b_SC_read 87 = .ok (.invokevirtual 49, 3) := by decide +kernel
theorem d_SC_read_90 : decode b_SC_read 90 = .ok (.iload 4, 2) := by decide +kernel
theorem d_SC_read_92 : decode b_SC_read 92 = .ok (.invokestatic 52, 3) := by decide +kernel
theorem d_SC_read_95 : decode b_SC_read 95 = .ok (.ifCond .eq 7, 3) := by decide +kernel
theorem d_SC_read_98 : decode b_SC_read 98 = .ok (.iload_n 2, 1) := by decide +kernel
theorem d_SC_read_99 : decode b_SC_read 99 = .ok (.goto 4, 3) := by decide +kernel
theorem d_SC_read_102 : decode b_SC_read 102 = .ok (.iload_n 3, 1) := by decide +kernel
theorem d_SC_read_103 : decode b_SC_read 103 = .ok (.invokevirtual 34, 3) := by decide +kernel
theorem d_SC_read_106 : decode b_SC_read 106 = .ok (.iinc 2 1, 3) := by decide +kernel
theorem d_SC_read_109 : decode b_SC_read 109 = .ok (.goto (-85), 3) := by decide +kernel
theorem d_SC_read_112 : decode b_SC_read 112 = .ok (.return_, 1) := by decide +kernel
theorem d_SC_depth_0 : decode b_SC_depth 0 = .ok (.iload_n 1, 1) := by decide +kernel
theorem d_SC_depth_1 : decode b_SC_depth 1 = .ok (.ifCond .lt 20, 3) := by decide +kernel
theorem d_SC_depth_4 : decode b_SC_depth 4 = .ok (.iload_n 1, 1) := by decide +kernel
theorem d_SC_depth_5 : decode b_SC_depth 5 = .ok (.aload_n 0, 1) := by decide +kernel
theorem d_SC_depth_6 : decode b_SC_depth 6 = .ok (.getfield 9, 3) := by decide +kernel
theorem d_SC_depth_9 : decode b_SC_depth 9 = .ok (.if_icmp .ge 12, 3) := by decide +kernel
theorem d_SC_depth_12 : decode b_SC_depth 12 = .ok (.aload_n 0, 1) := by decide +kernel
theorem d_SC_depth_13 : decode b_SC_depth 13 = .ok (.getfield 19, 3) := by decide +kernel
theorem d_SC_depth_16 : decode b_SC_depth 16 = .ok (.iload_n 1, 1) := by decide +kernel
theorem d_SC_depth_17 : decode b_SC_depth 17 = .ok (.iaload, 1) := by decide +kernel
theorem d_SC_depth_18 : decode b_SC_depth 18 = .ok (.goto 4, 3) := by decide +kernel
theorem d_SC_depth_21 : decode b_SC_depth 21 = .ok (.iconst 0, 1) := by decide +kernel
theorem d_SC_depth_22 : decode b_SC_depth 22 = .ok (.ireturn, 1) := by decide +kernel
theorem d_SC_innermost_0 : decode b_SC_innermost 0 = .ok (.iload_n 1, 1) := by decide +kernel
theorem d_SC_innermost_1 : decode b_SC_innermost 1 = .ok (.ifCond .lt 20, 3) := by decide +kernel
theorem d_SC_innermost_4 : decode b_SC_innermost 4 = .ok (.iload_n 1, 1) := by decide +kernel
theorem d_SC_innermost_5 : decode b_SC_innermost 5 = .ok (.aload_n 0, 1) := by decide +kernel
theorem d_SC_innermost_6 : decode b_SC_innermost 6 = .ok (.getfield 9, 3) := by decide +kernel
theorem d_SC_innermost_9 : decode b_SC_innermost 9 = .ok (.if_icmp .ge 12, 3) := by decide +kernel
theorem d_SC_innermost_12 : decode b_SC_innermost 12 = .ok (.aload_n 0, 1) := by decide +kernel
theorem d_SC_innermost_13 : decode b_SC_innermost 13 = .ok (.getfield 15, 3) := by decide +kernel
theorem d_SC_innermost_16 : decode b_SC_innermost 16 = .ok (.iload_n 1, 1) := by decide +kernel
theorem d_SC_innermost_17 : decode b_SC_innermost 17 = .ok (.iaload, 1) := by decide +kernel
theorem d_SC_innermost_18 : decode b_SC_innermost 18 = .ok (.goto 4, 3) := by decide +kernel
theorem d_SC_innermost_21 : decode b_SC_innermost 21 = .ok (.iconst (-1), 1) := by decide +kernel
theorem d_SC_innermost_22 : decode b_SC_innermost 22 = .ok (.ireturn, 1) := by decide +kernel
theorem d_SC_enter_0 : decode b_SC_enter 0 = .ok (.aload_n 0, 1) := by decide +kernel
theorem d_SC_enter_1 : decode b_SC_enter 1 = .ok (.iload_n 1, 1) := by decide +kernel
theorem d_SC_enter_2 : decode b_SC_enter 2 = .ok (.invokevirtual 38, 3) := by decide +kernel
theorem d_SC_enter_5 : decode b_SC_enter 5 = .ok (.iconst 1, 1) := by decide +kernel
theorem d_SC_enter_6 : decode b_SC_enter 6 = .ok (.isub, 1) := by decide +kernel
theorem d_SC_enter_7 : decode b_SC_enter 7 = .ok (.istore_n 2, 1) := by decide +kernel
theorem d_SC_enter_8 : decode b_SC_enter 8 = .ok (.iload_n 2, 1) := by decide +kernel
theorem d_SC_enter_9 : decode b_SC_enter 9 = .ok (.ifCond .lt 23, 3) := by decide +kernel
theorem d_SC_enter_12 : decode b_SC_enter 12 = .ok (.iload_n 2, 1) := by decide +kernel
theorem d_SC_enter_13 : decode b_SC_enter 13 = .ok (.aload_n 0, 1) := by decide +kernel
theorem d_SC_enter_14 : decode b_SC_enter 14 = .ok (.getfield 22, 3) := by decide +kernel
theorem d_SC_enter_17 : decode b_SC_enter 17 = .ok (.arraylength, 1) := by decide +kernel
theorem d_SC_enter_18 : decode b_SC_enter 18 = .ok (.if_icmp .ge 14, 3) := by decide +kernel
theorem d_SC_enter_21 : decode b_SC_enter 21 = .ok (.aload_n 0, 1) := by decide +kernel
theorem d_SC_enter_22 : decode b_SC_enter 22 = .ok (.getfield 22, 3) := by decide +kernel
theorem d_SC_enter_25 : decode b_SC_enter 25 = .ok (.iload_n 2, 1) := by decide +kernel
theorem d_SC_enter_26 : decode b_SC_enter 26 = .ok (.aload_n 0, 1) := by decide +kernel
theorem d_SC_enter_27 : decode b_SC_enter 27 = .ok (.iload_n 1, 1) := by decide +kernel
theorem d_SC_enter_28 : decode b_SC_enter 28 = .ok (.invokevirtual 55, 3) := by decide +kernel
theorem d_SC_enter_31 : decode b_SC_enter 31 = .ok (.iastore, 1) := by decide +kernel
theorem d_SC_enter_32 : decode b_SC_enter 32 = .ok (.return_, 1) := by decide +kernel
theorem d_SC_open_0 : decode b_SC_open 0 = .ok (.iload_n 1, 1) := by decide +kernel
theorem d_SC_open_1 : decode b_SC_open 1 = .ok (.ifCond .lt 21, 3) := by decide +kernel
theorem d_SC_open_4 : decode b_SC_open 4 = .ok (.iload_n 1, 1) := by decide +kernel
theorem d_SC_open_5 : decode b_SC_open 5 = .ok (.aload_n 0, 1) := by decide +kernel
theorem d_SC_open_6 : decode b_SC_open 6 = .ok (.getfield 22, 3) := by decide +kernel
theorem d_SC_open_9 : decode b_SC_open 9 = .ok (.arraylength, 1) := by decide +kernel
theorem d_SC_open_10 : decode b_SC_open 10 = .ok (.if_icmp .ge 12, 3) := by decide +kernel
theorem d_SC_open_13 : decode b_SC_open 13 = .ok (.aload_n 0, 1) := by decide +kernel
theorem d_SC_open_14 : decode b_SC_open 14 = .ok (.getfield 22, 3) := by decide +kernel
theorem d_SC_open_17 : decode b_SC_open 17 = .ok (.iload_n 1, 1) := by decide +kernel
theorem d_SC_open_18 : decode b_SC_open 18 = .ok (.iaload, 1) := by decide +kernel
theorem d_SC_open_19 : decode b_SC_open 19 = .ok (.goto 4, 3) := by decide +kernel
theorem d_SC_open_22 : decode b_SC_open 22 = .ok (.iconst (-1), 1) := by decide +kernel
theorem d_SC_open_23 : decode b_SC_open 23 = .ok (.ireturn, 1) := by decide +kernel
theorem d_SC_binderOf_0 : decode b_SC_binderOf 0 = .ok (.aload_n 0, 1) := by decide +kernel
theorem d_SC_binderOf_1 : decode b_SC_binderOf 1 = .ok (.iload_n 1, 1) := by decide +kernel
theorem d_SC_binderOf_2 : decode b_SC_binderOf 2 = .ok (.invokevirtual 38, 3) := by decide +kernel
theorem d_SC_binderOf_5 : decode b_SC_binderOf 5 = .ok (.iconst 1, 1) := by decide +kernel
theorem d_SC_binderOf_6 : decode b_SC_binderOf 6 = .ok (.isub, 1) := by decide +kernel
theorem d_SC_binderOf_7 : decode b_SC_binderOf 7 = .ok (.i2l, 1) := by decide +kernel
theorem d_SC_binderOf_8 : decode b_SC_binderOf 8 = .ok (.lload_n 2, 1) := by decide +kernel
theorem d_SC_binderOf_9 : decode b_SC_binderOf 9 = .ok (.lsub, 1) := by decide +kernel
theorem d_SC_binderOf_10 : decode b_SC_binderOf 10 = .ok (.lstore 4, 2) := by decide +kernel
theorem d_SC_binderOf_12 : decode b_SC_binderOf 12 = .ok (.lload 4, 2) := by decide +kernel
theorem d_SC_binderOf_14 : decode b_SC_binderOf 14 = .ok (.lconst 0, 1) := by decide +kernel
theorem d_SC_binderOf_15 : decode b_SC_binderOf 15 = .ok (.lcmp, 1) := by decide +kernel
theorem d_SC_binderOf_16 : decode b_SC_binderOf 16 = .ok (.ifCond .lt 26, 3) := by decide +kernel
theorem d_SC_binderOf_19 : decode b_SC_binderOf 19 = .ok (.lload 4, 2) := by decide +kernel
theorem d_SC_binderOf_21 : decode b_SC_binderOf 21 = .ok (.aload_n 0, 1) := by decide +kernel
theorem d_SC_binderOf_22 : decode b_SC_binderOf 22 = .ok (.getfield 22, 3) := by decide +kernel
theorem d_SC_binderOf_25 : decode b_SC_binderOf 25 = .ok (.arraylength, 1) := by decide +kernel
theorem d_SC_binderOf_26 : decode b_SC_binderOf 26 = .ok (.i2l, 1) := by decide +kernel
theorem d_SC_binderOf_27 : decode b_SC_binderOf 27 = .ok (.lcmp, 1) := by decide +kernel
theorem d_SC_binderOf_28 : decode b_SC_binderOf 28 = .ok (.ifCond .ge 14, 3) := by decide +kernel
theorem d_SC_binderOf_31 : decode b_SC_binderOf 31 = .ok (.aload_n 0, 1) := by decide +kernel
theorem d_SC_binderOf_32 : decode b_SC_binderOf 32 = .ok (.getfield 22, 3) := by decide +kernel
theorem d_SC_binderOf_35 : decode b_SC_binderOf 35 = .ok (.lload 4, 2) := by decide +kernel
theorem d_SC_binderOf_37 : decode b_SC_binderOf 37 = .ok (.l2i, 1) := by decide +kernel
theorem d_SC_binderOf_38 : decode b_SC_binderOf 38 = .ok (.iaload, 1) := by decide +kernel
theorem d_SC_binderOf_39 : decode b_SC_binderOf 39 = .ok (.goto 4, 3) := by decide +kernel
theorem d_SC_binderOf_42 : decode b_SC_binderOf 42 = .ok (.iconst (-1), 1) := by decide +kernel
theorem d_SC_binderOf_43 : decode b_SC_binderOf 43 = .ok (.ireturn, 1) := by decide +kernel
theorem d_SC_indexOf_0 : decode b_SC_indexOf 0 = .ok (.aload_n 0, 1) := by decide +kernel
theorem d_SC_indexOf_1 : decode b_SC_indexOf 1 = .ok (.iload 4, 2) := by decide +kernel
theorem d_SC_indexOf_3 : decode b_SC_indexOf 3 = .ok (.invokevirtual 38, 3) := by decide +kernel
theorem d_SC_indexOf_6 : decode b_SC_indexOf 6 = .ok (.istore 5, 2) := by decide +kernel
theorem d_SC_indexOf_8 : decode b_SC_indexOf 8 = .ok (.iconst 0, 1) := by decide +kernel
theorem d_SC_indexOf_9 : decode b_SC_indexOf 9 = .ok (.istore 6, 2) := by decide +kernel
theorem d_SC_indexOf_11 : decode b_SC_indexOf 11 = .ok (.iload 6, 2) := by decide +kernel
theorem d_SC_indexOf_13 : decode b_SC_indexOf 13 = .ok (.iload 5, 2) := by decide +kernel
theorem d_SC_indexOf_15 : decode b_SC_indexOf 15 = .ok (.if_icmp .ge 32, 3) := by decide +kernel
theorem d_SC_indexOf_18 : decode b_SC_indexOf 18 = .ok (.aload_n 3, 1) := by decide +kernel
theorem d_SC_indexOf_19 : decode b_SC_indexOf 19 = .ok (.aload_n 0, 1) := by decide +kernel
theorem d_SC_indexOf_20 : decode b_SC_indexOf 20 = .ok (.iload 5, 2) := by decide +kernel
theorem d_SC_indexOf_22 : decode b_SC_indexOf 22 = .ok (.iconst 1, 1) := by decide +kernel
theorem d_SC_indexOf_23 : decode b_SC_indexOf 23 = .ok (.isub, 1) := by decide +kernel
theorem d_SC_indexOf_24 : decode b_SC_indexOf 24 = .ok (.iload 6, 2) := by decide +kernel
theorem d_SC_indexOf_26 : decode b_SC_indexOf 26 = .ok (.isub, 1) := by decide +kernel
theorem d_SC_indexOf_27 : decode b_SC_indexOf 27 = .ok (.invokevirtual 57, 3) := by decide +kernel
theorem d_SC_indexOf_30 : decode b_SC_indexOf 30 = .ok (.invokevirtual 59, 3) := by decide +kernel
theorem d_SC_indexOf_33 : decode b_SC_indexOf 33 = .ok (.lload_n 1, 1) := by decide +kernel
theorem d_SC_indexOf_34 : decode b_SC_indexOf 34 = .ok (.lcmp, 1) := by decide +kernel
theorem d_SC_indexOf_35 : decode b_SC_indexOf 35 = .ok (.ifCond .ne 6, 3) := by decide +kernel
theorem d_SC_indexOf_38 : decode b_SC_indexOf 38 = .ok (.iload 6, 2) := by decide +kernel
theorem d_SC_indexOf_40 : decode b_SC_indexOf 40 = .ok (.ireturn, 1) := by decide +kernel
theorem d_SC_indexOf_41 : decode b_SC_indexOf 41 = .ok (.iinc 6 1, 3) := by decide +kernel
theorem d_SC_indexOf_44 : decode b_SC_indexOf 44 = .ok (.goto (-33), 3) := by decide +kernel
theorem d_SC_indexOf_47 : decode b_SC_indexOf 47 = .ok (.iconst (-1), 1) := by decide +kernel
theorem d_SC_indexOf_48 : decode b_SC_indexOf 48 = .ok (.ireturn, 1) := by decide +kernel
theorem d_SC_setInnermost_0 : decode b_SC_setInnermost 0 = .ok (.iload_n 1, 1) := by decide +kernel
theorem d_SC_setInnermost_1 : decode b_SC_setInnermost 1 = .ok (.ifCond .lt 18, 3) := by decide +kernel
theorem d_SC_setInnermost_4 : decode b_SC_setInnermost 4 = .ok (.iload_n 1, 1) := by decide +kernel
theorem d_SC_setInnermost_5 : decode b_SC_setInnermost 5 = .ok (.aload_n 0, 1) := by decide +kernel
theorem d_SC_setInnermost_6 : decode b_SC_setInnermost 6 = .ok (.getfield 9, 3) := by decide +kernel
theorem d_SC_setInnermost_9 : decode b_SC_setInnermost 9 = .ok (.if_icmp .ge 10, 3) := by decide +kernel
theorem d_SC_setInnermost_12 : decode b_SC_setInnermost 12 = .ok (.aload_n 0, 1) := by decide +kernel
theorem d_SC_setInnermost_13 : decode b_SC_setInnermost 13 = .ok (.getfield 15, 3) := by decide +kernel
theorem d_SC_setInnermost_16 : decode b_SC_setInnermost 16 = .ok (.iload_n 1, 1) := by decide +kernel
theorem d_SC_setInnermost_17 : decode b_SC_setInnermost 17 = .ok (.iload_n 2, 1) := by decide +kernel
theorem d_SC_setInnermost_18 : decode b_SC_setInnermost 18 = .ok (.iastore, 1) := by decide +kernel
theorem d_SC_setInnermost_19 : decode b_SC_setInnermost 19 = .ok (.return_, 1) := by decide +kernel
theorem d_SC_makeRoom_0 : decode b_SC_makeRoom 0 = .ok (.iload_n 1, 1) := by decide +kernel
theorem d_SC_makeRoom_1 : decode b_SC_makeRoom 1 = .ok (.aload_n 0, 1) := by decide +kernel
theorem d_SC_makeRoom_2 : decode b_SC_makeRoom 2 = .ok (.getfield 19, 3) := by decide +kernel
theorem d_SC_makeRoom_5 : decode b_SC_makeRoom 5 = .ok (.arraylength, 1) := by decide +kernel
theorem d_SC_makeRoom_6 : decode b_SC_makeRoom 6 = .ok (.if_icmp .le 34, 3) := by decide +kernel
theorem d_SC_makeRoom_9 : decode b_SC_makeRoom 9 = .ok (.aload_n 0, 1) := by decide +kernel
theorem d_SC_makeRoom_10 : decode b_SC_makeRoom 10 = .ok (.getfield 19, 3) := by decide +kernel
theorem d_SC_makeRoom_13 : decode b_SC_makeRoom 13 = .ok (.arraylength, 1) := by decide +kernel
theorem d_SC_makeRoom_14 : decode b_SC_makeRoom 14 = .ok (.iload_n 1, 1) := by decide +kernel
theorem d_SC_makeRoom_15 : decode b_SC_makeRoom 15 = .ok (.invokestatic 63, 3) := by decide +kernel
theorem d_SC_makeRoom_18 : decode b_SC_makeRoom 18 = .ok (.istore_n 2, 1) := by decide +kernel
theorem d_SC_makeRoom_19 : decode b_SC_makeRoom 19 = .ok (.aload_n 0, 1) := by decide +kernel
theorem d_SC_makeRoom_20 : decode b_SC_makeRoom 20 = .ok (.iload_n 2, 1) := by decide +kernel
theorem d_SC_makeRoom_21 : decode b_SC_makeRoom 21 = .ok (.newarray .int, 2) := by decide +kernel
theorem d_SC_makeRoom_23 : decode b_SC_makeRoom 23 = .ok (.putfield 15, 3) := by decide +kernel
theorem d_SC_makeRoom_26 : decode b_SC_makeRoom 26 = .ok (.aload_n 0, 1) := by decide +kernel
theorem d_SC_makeRoom_27 : decode b_SC_makeRoom 27 = .ok (.iload_n 2, 1) := by decide +kernel
theorem d_SC_makeRoom_28 : decode b_SC_makeRoom 28 = .ok (.newarray .int, 2) := by decide +kernel
theorem d_SC_makeRoom_30 : decode b_SC_makeRoom 30 = .ok (.putfield 19, 3) := by decide +kernel
theorem d_SC_makeRoom_33 : decode b_SC_makeRoom 33 = .ok (.aload_n 0, 1) := by decide +kernel
theorem d_SC_makeRoom_34 : decode b_SC_makeRoom 34 = .ok (.iload_n 2, 1) := by decide +kernel
theorem d_SC_makeRoom_35 : decode b_SC_makeRoom 35 = .ok (.newarray .int, 2) := by decide +kernel
theorem d_SC_makeRoom_37 : decode b_SC_makeRoom 37 = .ok (.putfield 22, 3) := by decide +kernel
theorem d_SC_makeRoom_40 : decode b_SC_makeRoom 40 = .ok (.return_, 1) := by decide +kernel
