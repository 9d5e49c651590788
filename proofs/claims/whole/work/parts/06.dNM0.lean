theorem d_NM_canBeGiven_0 : decode b_NM_canBeGiven 0 = .ok (.lload_n 0, 1) := by decide +kernel
theorem d_NM_canBeGiven_1 : decode b_NM_canBeGiven 1 = .ok (.lconst 0, 1) := by decide +kernel
theorem d_NM_canBeGiven_2 : decode b_NM_canBeGiven 2 = .ok (.lcmp, 1) := by decide +kernel
theorem d_NM_canBeGiven_3 : decode b_NM_canBeGiven 3 = .ok (.ifCond .le 12, 3) := by decide +kernel
theorem d_NM_canBeGiven_6 : decode b_NM_canBeGiven 6 = .ok (.lload_n 0, 1) := by decide +kernel
theorem d_NM_canBeGiven_7 : decode b_NM_canBeGiven 7 = .ok (.bipush 32, 2) := by decide +kernel
theorem d_NM_canBeGiven_9 : decode b_NM_canBeGiven 9 = .ok (.lushr, 1) := by decide +kernel
theorem d_NM_canBeGiven_10 : decode b_NM_canBeGiven 10 = .ok (.lconst 0, 1) := by decide +kernel
theorem d_NM_canBeGiven_11 : decode b_NM_canBeGiven 11 = .ok (.lcmp, 1) := by decide +kernel
theorem d_NM_canBeGiven_12 : decode b_NM_canBeGiven 12 = .ok (.ifCond .eq 5, 3) := by decide +kernel
theorem d_NM_canBeGiven_15 : decode b_NM_canBeGiven 15 = .ok (.iconst 0, 1) := by decide +kernel
theorem d_NM_canBeGiven_16 : decode b_NM_canBeGiven 16 = .ok (.ireturn, 1) := by decide +kernel
theorem d_NM_canBeGiven_17 : decode b_NM_canBeGiven 17 = .ok (.lload_n 0, 1) := by decide +kernel
theorem d_NM_canBeGiven_18 : decode b_NM_canBeGiven 18 = .ok (.lstore_n 2, 1) := by decide +kernel
theorem d_NM_canBeGiven_19 : decode b_NM_canBeGiven 19 = .ok (.iconst 0, 1) := by decide +kernel
theorem d_NM_canBeGiven_20 : decode b_NM_canBeGiven 20 = .ok (.istore 4, 2) := by decide +kernel
theorem d_NM_canBeGiven_22 : decode b_NM_canBeGiven 22 = .ok (.iload 4, 2) := by decide +kernel
theorem d_NM_canBeGiven_24 : decode b_NM_canBeGiven 24 = .ok (.iconst 4, 1) := by decide +kernel
theorem d_NM_canBeGiven_25 : decode b_NM_canBeGiven 25 = .ok (.if_icmp .ge 86, 3) := by decide +kernel
theorem d_NM_canBeGiven_28 : decode b_NM_canBeGiven 28 = .ok (.lload_n 2, 1) := by decide +kernel
theorem d_NM_canBeGiven_29 : decode b_NM_canBeGiven 29 = .ok (.lconst 0, 1) := by decide +kernel
theorem d_NM_canBeGiven_30 : decode b_NM_canBeGiven 30 = .ok (.lcmp, 1) := by decide +kernel
theorem d_NM_canBeGiven_31 : decode b_NM_canBeGiven 31 = .ok (.ifCond .eq 80, 3) := by decide +kernel
theorem d_NM_canBeGiven_34 : decode b_NM_canBeGiven 34 = .ok (.lload_n 2, 1) := by decide +kernel
theorem d_NM_canBeGiven_35 : decode b_NM_canBeGiven 35 = .ok (.ldc2_w 9, 3) := by decide +kernel
theorem d_NM_canBeGiven_38 : decode b_NM_canBeGiven 38 = .ok (.land, 1) := by decide +kernel
theorem d_NM_canBeGiven_39 : decode b_NM_canBeGiven 39 = .ok (.lstore 5, 2) := by decide +kernel
theorem d_NM_canBeGiven_41 : decode b_NM_canBeGiven 41 = .ok (.lload_n 2, 1) := by decide +kernel
theorem d_NM_canBeGiven_42 : decode b_NM_canBeGiven 42 = .ok (.lload 5, 2) := by decide +kernel
theorem d_NM_canBeGiven_44 : decode b_NM_canBeGiven 44 = .ok (.lcmp, 1) := by decide +kernel
theorem d_NM_canBeGiven_45 : decode b_NM_canBeGiven 45 = .ok (.ifCond .ne 7, 3) := by decide +kernel
theorem d_NM_canBeGiven_48 : decode b_NM_canBeGiven 48 = .ok (.iconst 1, 1) := by decide +kernel
theorem d_NM_canBeGiven_49 : decode b_NM_canBeGiven 49 = .ok (.goto 4, 3) := by decide +kernel
theorem d_NM_canBeGiven_52 : decode b_NM_canBeGiven 52 = .ok (.iconst 0, 1) := by decide +kernel
theorem d_NM_canBeGiven_53 : decode b_NM_canBeGiven 53 = .ok (.istore 7, 2) := by decide +kernel
theorem d_NM_canBeGiven_55 : decode b_NM_canBeGiven 55 = .ok (.lload 5, 2) := by decide +kernel
theorem d_NM_canBeGiven_57 : decode b_NM_canBeGiven 57 = .ok (.ldc2_w 11, 3) := by decide +kernel
theorem d_NM_canBeGiven_60 : decode b_NM_canBeGiven 60 = .ok (.lcmp, 1) := by decide +kernel
theorem d_NM_canBeGiven_61 : decode b_NM_canBeGiven 61 = .ok (.ifCond .lt 16, 3) := by decide +kernel
theorem d_NM_canBeGiven_64 : decode b_NM_canBeGiven 64 = .ok (.lload 5, 2) := by decide +kernel
theorem d_NM_canBeGiven_66 : decode b_NM_canBeGiven 66 = .ok (.ldc2_w 13, 3) := by decide +kernel
theorem d_NM_canBeGiven_69 : decode b_NM_canBeGiven 69 = .ok (.lcmp, 1) := by decide +kernel
theorem d_NM_canBeGiven_70 : decode b_NM_canBeGiven 70 = .ok (.ifCond .gt 7, 3) := by decide +kernel
theorem d_NM_canBeGiven_73 : decode b_NM_canBeGiven 73 = .ok (.iconst 1, 1) := by decide +kernel
theorem d_NM_canBeGiven_74 : decode b_NM_canBeGiven 74 = .ok (.goto 4, 3) := by decide +kernel
theorem d_NM_canBeGiven_77 : decode b_NM_canBeGiven 77 = .ok (.iconst 0, 1) := by decide +kernel
theorem d_NM_canBeGiven_78 : decode b_NM_canBeGiven 78 = .ok (.istore 8, 2) := by decide +kernel
theorem d_NM_canBeGiven_80 : decode b_NM_canBeGiven 80 = .ok (.iload 8, 2) := by decide +kernel
theorem d_NM_canBeGiven_82 : decode b_NM_canBeGiven 82 = .ok (.ifCond .ne 18, 3) := by decide +kernel
theorem d_NM_canBeGiven_85 : decode b_NM_canBeGiven 85 = .ok (.iload 7, 2) := by decide +kernel
theorem d_NM_canBeGiven_87 : decode b_NM_canBeGiven 87 = .ok (.ifCond .ne 11, 3) := by decide +kernel
theorem d_NM_canBeGiven_90 : decode b_NM_canBeGiven 90 = .ok (.lload 5, 2) := by decide +kernel
theorem d_NM_canBeGiven_92 : decode b_NM_canBeGiven 92 = .ok (.invokestatic 15, 3) := by decide +kernel
theorem d_NM_canBeGiven_95 : decode b_NM_canBeGiven 95 = .ok (.ifCond .ne 5, 3) := by decide +kernel
theorem d_NM_canBeGiven_98 : decode b_NM_canBeGiven 98 = .ok (.iconst 0, 1) := by decide +kernel
theorem d_NM_canBeGiven_99 : decode b_NM_canBeGiven 99 = .ok (.ireturn, 1) := by decide +kernel
theorem d_NM_canBeGiven_100 : decode b_NM_canBeGiven 100 = .ok (.lload_n 2, 1) := by decide +kernel
theorem d_NM_canBeGiven_101 : decode b_NM_canBeGiven 101 = .ok (.bipush 8, 2) := by decide +kernel
theorem d_NM_canBeGiven_103 : decode b_NM_canBeGiven 103 = .ok (.lushr, 1) := by decide +kernel
theorem d_NM_canBeGiven_104 : decode b_NM_canBeGiven 104 = .ok (.lstore_n 2, 1) := by decide +kernel
theorem d_NM_canBeGiven_105 : decode b_NM_canBeGiven 105 = .ok (.iinc 4 1, 3) := by decide +kernel
theorem d_NM_canBeGiven_108 : decode b_NM_canBeGiven 108 = .ok (.goto (-86), 3) := by decide +kernel
theorem d_NM_canBeGiven_111 : decode b_NM_canBeGiven 111 = .ok (.iconst 1, 1) := by decide +kernel
theorem d_NM_canBeGiven_112 : decode b_NM_canBeGiven 112 = .ok (.ireturn, 1) := by decide +kernel
theorem d_NM_firstFour_0 : decode b_NM_firstFour 0 = .ok (.lload_n 0, 1) := by decide +kernel
theorem d_NM_firstFour_1 : decode b_NM_firstFour 1 = .ok (.lstore_n 2, 1) := by decide +kernel
theorem d_NM_firstFour_2 : decode b_NM_firstFour 2 = .ok (.iconst 4, 1) := by decide +kernel
theorem d_NM_firstFour_3 : decode b_NM_firstFour 3 = .ok (.istore 4, 2) := by decide +kernel
theorem d_NM_firstFour_5 : decode b_NM_firstFour 5 = .ok (.iload 4, 2) := by decide +kernel
theorem d_NM_firstFour_7 : decode b_NM_firstFour 7 = .ok (.bipush 8, 2) := by decide +kernel
theorem d_NM_firstFour_9 : decode b_NM_firstFour 9 = .ok (.if_icmp .ge 23, 3) := by decide +kernel
theorem d_NM_firstFour_12 : decode b_NM_firstFour 12 = .ok (.lload_n 2, 1) := by decide +kernel
theorem d_NM_firstFour_13 : decode b_NM_firstFour 13 = .ok (.bipush 32, 2) := by decide +kernel
theorem d_NM_firstFour_15 : decode b_NM_firstFour 15 = .ok (.lushr, 1) := by decide +kernel
theorem d_NM_firstFour_16 : decode b_NM_firstFour 16 = .ok (.lconst 0, 1) := by decide +kernel
theorem d_NM_firstFour_17 : decode b_NM_firstFour 17 = .ok (.lcmp, 1) := by decide +kernel
theorem d_NM_firstFour_18 : decode b_NM_firstFour 18 = .ok (.ifCond .eq 14, 3) := by decide +kernel
theorem d_NM_firstFour_21 : decode b_NM_firstFour 21 = .ok (.lload_n 2, 1) := by decide +kernel
theorem d_NM_firstFour_22 : decode b_NM_firstFour 22 = .ok (.bipush 8, 2) := by decide +kernel
theorem d_NM_firstFour_24 : decode b_NM_firstFour 24 = .ok (.lushr, 1) := by decide +kernel
theorem d_NM_firstFour_25 : decode b_NM_firstFour 25 = .ok (.lstore_n 2, 1) := by decide +kernel
theorem d_NM_firstFour_26 : decode b_NM_firstFour 26 = .ok (.iinc 4 1, 3) := by decide +kernel
theorem d_NM_firstFour_29 : decode b_NM_firstFour 29 = .ok (.goto (-24), 3) := by decide +kernel
theorem d_NM_firstFour_32 : decode b_NM_firstFour 32 = .ok (.lload_n 2, 1) := by decide +kernel
theorem d_NM_firstFour_33 : decode b_NM_firstFour 33 = .ok (.lreturn, 1) := by decide +kernel
theorem d_NM_numbered_0 : decode b_NM_numbered 0 = .ok (.lload_n 0, 1) := by decide +kernel
theorem d_NM_numbered_1 : decode b_NM_numbered 1 = .ok (.lstore_n 3, 1) := by decide +kernel
theorem d_NM_numbered_2 : decode b_NM_numbered 2 = .ok (.sipush 1000, 3) := by decide +kernel
theorem d_NM_numbered_5 : decode b_NM_numbered 5 = .ok (.istore 5, 2) := by decide +kernel
theorem d_NM_numbered_7 : decode b_NM_numbered 7 = .ok (.iload 5, 2) := by decide +kernel
theorem d_NM_numbered_9 : decode b_NM_numbered 9 = .ok (.ifCond .le 36, 3) := by decide +kernel
theorem d_NM_numbered_12 : decode b_NM_numbered 12 = .ok (.iload_n 2, 1) := by decide +kernel
theorem d_NM_numbered_13 : decode b_NM_numbered 13 = .ok (.iload 5, 2) := by decide +kernel
theorem d_NM_numbered_15 : decode b_NM_numbered 15 = .ok (.if_icmp .lt 20, 3) := by decide +kernel
theorem d_NM_numbered_18 : decode b_NM_numbered 18 = .ok (.lload_n 3, 1) := by decide +kernel
theorem d_NM_numbered_19 : decode b_NM_numbered 19 = .ok (.bipush 8, 2) := by decide +kernel
theorem d_NM_numbered_21 : decode b_NM_numbered 21 = .ok (.lshl, 1) := by decide +kernel
theorem d_NM_numbered_22 : decode b_NM_numbered 22 = .ok (.bipush 48, 2) := by decide +kernel
theorem d_NM_numbered_24 : decode b_NM_numbered 24 = .ok (.iload_n 2, 1) := by decide +kernel
theorem d_NM_numbered_25 : decode b_NM_numbered 25 = .ok (.iload 5, 2) := by decide +kernel
theorem d_NM_numbered_27 : decode b_NM_numbered 27 = .ok (.idiv, 1) := by decide +kernel
theorem d_NM_numbered_28 : decode b_NM_numbered 28 = .ok (.bipush 10, 2) := by decide +kernel
theorem d_NM_numbered_30 : decode b_NM_numbered 30 = .ok (.irem, 1) := by decide +kernel
theorem d_NM_numbered_31 : decode b_NM_numbered 31 = .ok (.iadd, 1) := by decide +kernel
theorem d_NM_numbered_32 : decode b_NM_numbered 32 = .ok (.i2l, 1) := by decide +kernel
theorem d_NM_numbered_33 : decode b_NM_numbered 33 = .ok (.lor, 1) := by decide +kernel
theorem d_NM_numbered_34 : decode b_NM_numbered 34 = .ok (.lstore_n 3, 1) := by decide +kernel
theorem d_NM_numbered_35 : decode b_NM_numbered 35 = .ok (.iload 5, 2) := by decide +kernel
theorem d_NM_numbered_37 : decode b_NM_numbered 37 = .ok (.bipush 10, 2) := by decide +kernel
theorem d_NM_numbered_39 : decode b_NM_numbered 39 = .ok (.idiv, 1) := by decide +kernel
theorem d_NM_numbered_40 : decode b_NM_numbered 40 = .ok (.istore 5, 2) := by decide +kernel
theorem d_NM_numbered_42 : decode b_NM_numbered 42 = .ok (.goto (-35), 3) := by decide +kernel
theorem d_NM_numbered_45 : decode b_NM_numbered 45 = .ok (.lload_n 3, 1) := by decide +kernel
theorem d_NM_numbered_46 : decode b_NM_numbered 46 = .ok (.lreturn, 1) := by decide +kernel
theorem d_NM_numberBehind_0 : decode b_NM_numberBehind 0 = .ok (.lload_n 2, 1) := by decide +kernel
theorem d_NM_numberBehind_1 : decode b_NM_numberBehind 1 = .ok (.lstore 4, 2) := by decide +kernel
theorem d_NM_numberBehind_3 : decode b_NM_numberBehind 3 = .ok (.iconst 0, 1) := by decide +kernel
theorem d_NM_numberBehind_4 : decode b_NM_numberBehind 4 = .ok (.istore 6, 2) := by decide +kernel
theorem d_NM_numberBehind_6 : decode b_NM_numberBehind 6 = .ok (.iconst 1, 1) := by decide +kernel
theorem d_NM_numberBehind_7 : decode b_NM_numberBehind 7 = .ok (.istore 7, 2) := by decide +kernel
theorem d_NM_numberBehind_9 : decode b_NM_numberBehind 9 = .ok (.iconst 1, 1) := by decide +kernel
theorem d_NM_numberBehind_10 : decode b_NM_numberBehind 10 = .ok (.istore 8, 2) := by decide +kernel
theorem d_NM_numberBehind_12 : decode b_NM_numberBehind 12 = .ok (.iload 8, 2) := by decide +kernel
theorem d_NM_numberBehind_14 : decode b_NM_numberBehind 14 = .ok (.bipush 8, 2) := by decide +kernel
theorem d_NM_numberBehind_16 : decode b_NM_numberBehind 16 = .ok (.if_icmp .ge 79, 3) := by decide +kernel
theorem d_NM_numberBehind_19 : decode b_NM_numberBehind 19 = .ok (.lload 4, 2) := by decide +kernel
theorem d_NM_numberBehind_21 : decode b_NM_numberBehind 21 = .ok (.ldc2_w 9, 3) := by decide +kernel
theorem d_NM_numberBehind_24 : decode b_NM_numberBehind 24 = .ok (.land, 1) := by decide +kernel
theorem d_NM_numberBehind_25 : decode b_NM_numberBehind 25 = .ok (.lstore 9, 2) := by decide +kernel
theorem d_NM_numberBehind_27 : decode b_NM_numberBehind 27 = .ok (.lload 9, 2) := by decide +kernel
theorem d_NM_numberBehind_29 : decode b_NM_numberBehind 29 = .ok (.invokestatic 15, 3) := by decide +kernel
theorem d_NM_numberBehind_32 : decode b_NM_numberBehind 32 = .ok (.ifCond .ne 5, 3) := by decide +kernel
theorem d_NM_numberBehind_35 : decode b_NM_numberBehind 35 = .ok (.iconst 0, 1) := by decide +kernel
theorem d_NM_numberBehind_36 : decode b_NM_numberBehind 36 = .ok (.ireturn, 1) := by decide +kernel
theorem d_NM_numberBehind_37 : decode b_NM_numberBehind 37 = .ok (.iload 6, 2) := by decide +kernel
theorem d_NM_numberBehind_39 : decode b_NM_numberBehind 39 = .ok (.iload 7, 2) := by decide +kernel
theorem d_NM_numberBehind_41 : decode b_NM_numberBehind 41 = .ok (.lload 9, 2) := by decide +kernel
theorem d_NM_numberBehind_43 : decode b_NM_numberBehind 43 = .ok (.ldc2_w 19, 3) := by decide +kernel
theorem d_NM_numberBehind_46 : decode b_NM_numberBehind 46 = .ok (.lsub, 1) := by decide +kernel
theorem d_NM_numberBehind_47 : decode b_NM_numberBehind 47 = .ok (.l2i, 1) := by decide +kernel
theorem d_NM_numberBehind_48 : decode b_NM_numberBehind 48 = .ok (.imul, 1) := by decide +kernel
theorem d_NM_numberBehind_49 : decode b_NM_numberBehind 49 = .ok (.iadd, 1) := by decide +kernel
theorem d_NM_numberBehind_50 : decode b_NM_numberBehind 50 = .ok (.istore 6, 2) := by decide +kernel
theorem d_NM_numberBehind_52 : decode b_NM_numberBehind 52 = .ok (.iload 7, 2) := by decide +kernel
theorem d_NM_numberBehind_54 : decode b_NM_numberBehind 54 = .ok (.bipush 10, 2) := by decide +kernel
theorem d_NM_numberBehind_56 : decode b_NM_numberBehind 56 = .ok (.imul, 1) := by decide +kernel
theorem d_NM_numberBehind_57 : decode b_NM_numberBehind 57 = .ok (.istore 7, 2) := by decide +kernel
theorem d_NM_numberBehind_59 : decode b_NM_numberBehind 59 = .ok (.lload 4, 2) := by decide +kernel
theorem d_NM_numberBehind_61 : decode b_NM_numberBehind 61 = .ok (.bipush 8, 2) := by decide +kernel
theorem d_NM_numberBehind_63 : decode b_NM_numberBehind 63 = .ok (.lushr, 1) := by decide +kernel
theorem d_NM_numberBehind_64 : decode b_NM_numberBehind 64 = .ok (.lstore 4, 2) := by decide +kernel
theorem d_NM_numberBehind_66 : decode b_NM_numberBehind 66 = .ok (.lload 4, 2) := by decide +kernel
theorem d_NM_numberBehind_68 : decode b_NM_numberBehind 68 = .ok (.lload_n 0, 1) := by decide +kernel
theorem d_NM_numberBehind_69 : decode b_NM_numberBehind 69 = .ok (.lcmp, 1) := by decide +kernel
theorem d_NM_numberBehind_70 : decode b_NM_numberBehind 70 = .ok (.ifCond .ne 19, 3) := by decide +kernel
theorem d_NM_numberBehind_73 : decode b_NM_numberBehind 73 = .ok (.lload 9, 2) := by decide +kernel
theorem d_NM_numberBehind_75 : decode b_NM_numberBehind 75 = .ok (.ldc2_w 19, 3) := by decide +kernel
theorem d_NM_numberBehind_78 : decode b_NM_numberBehind 78 = .ok (.lcmp, 1) := by decide +kernel
theorem d_NM_numberBehind_79 : decode b_NM_numberBehind 79 = .ok (.ifCond .ne 7, 3) := by decide +kernel
theorem d_NM_numberBehind_82 : decode b_NM_numberBehind 82 = .ok (.iconst 0, 1) := by decide +kernel
theorem d_NM_numberBehind_83 : decode b_NM_numberBehind 83 = .ok (.goto 5, 3) := by decide +kernel
theorem d_NM_numberBehind_86 : decode b_NM_numberBehind 86 = .ok (.iload 6, 2) := by decide +kernel
theorem d_NM_numberBehind_88 : decode b_NM_numberBehind 88 = .ok (.ireturn, 1) := by decide +kernel
theorem d_NM_numberBehind_89 : decode b_NM_numberBehind 89 = .ok (.iinc 8 1, 3) := by decide +kernel
theorem d_NM_numberBehind_92 : decode b_NM_numberBehind 92 = .ok (.goto (-80), 3) := by decide +kernel
theorem d_NM_numberBehind_95 : decode b_NM_numberBehind 95 = .ok (.iconst 0, 1) := by decide +kernel
theorem d_NM_numberBehind_96 : decode b_NM_numberBehind 96 = .ok (.ireturn, 1) := by decide +kernel
theorem d_NM_isDigit_0 : decode b_NM_isDigit 0 = .ok (.lload_n 0, 1) := by decide +kernel
theorem d_NM_isDigit_1 : decode b_NM_isDigit 1 = .ok (.ldc2_w 19, 3) := by decide +kernel
theorem d_NM_isDigit_4 : decode b_NM_isDigit 4 = .ok (.lcmp, 1) := by decide +kernel
theorem d_NM_isDigit_5 : decode b_NM_isDigit 5 = .ok (.ifCond .lt 15, 3) := by decide +kernel
theorem d_NM_isDigit_8 : decode b_NM_isDigit 8 = .ok (.lload_n 0, 1) := by decide +kernel
theorem d_NM_isDigit_9 : decode b_NM_isDigit 9 = .ok (.ldc2_w 21, 3) := by decide +kernel
theorem d_NM_isDigit_12 : decode b_NM_isDigit 12 = .ok (.lcmp, 1) := by decide +kernel
theorem d_NM_isDigit_13 : decode b_NM_isDigit 13 = .ok (.ifCond .gt 7, 3) := by decide +kernel
theorem d_NM_isDigit_16 : decode b_NM_isDigit 16 = .ok (.iconst 1, 1) := by decide +kernel
theorem d_NM_isDigit_17 : decode b_NM_isDigit 17 = .ok (.goto 4, 3) := by decide +kernel
theorem d_NM_isDigit_20 : decode b_NM_isDigit 20 = .ok (.iconst 0, 1) := by decide +kernel
theorem d_NM_isDigit_21 : decode b_NM_isDigit 21 = .ok (.ireturn, 1) := by decide +kernel
