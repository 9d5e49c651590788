theorem d_PN_init_0 : decode b_PN_init 0 = .ok (.aload_n 0, 1) := by decide +kernel
theorem d_PN_init_1 : decode b_PN_init 1 = .ok (.invokespecial 3, 3) := by decide +kernel
theorem d_PN_init_4 : decode b_PN_init 4 = .ok (.aload_n 0, 1) := by decide +kernel
theorem d_PN_init_5 : decode b_PN_init 5 = .ok (.new 9, 3) := by decide +kernel
theorem d_PN_init_8 : decode b_PN_init 8 = .ok (.dup, 1) := by decide +kernel
theorem d_PN_init_9 : decode b_PN_init 9 = .ok (.invokespecial 11, 3) := by decide +kernel
theorem d_PN_init_12 : decode b_PN_init 12 = .ok (.putfield 12, 3) := by decide +kernel
theorem d_PN_init_15 : decode b_PN_init 15 = .ok (.aload_n 0, 1) := by decide +kernel
theorem d_PN_init_16 : decode b_PN_init 16 = .ok (.sipush 216, 3) := by decide +kernel
theorem d_PN_init_19 : decode b_PN_init 19 = .ok (.newarray .int, 2) := by decide +kernel
theorem d_PN_init_21 : decode b_PN_init 21 = .ok (.putfield 18, 3) := by decide +kernel
theorem d_PN_init_24 : decode b_PN_init 24 = .ok (.aload_n 0, 1) := by decide +kernel
theorem d_PN_init_25 : decode b_PN_init 25 = .ok (.sipush 216, 3) := by decide +kernel
theorem d_PN_init_28 : decode b_PN_init 28 = .ok (.newarray .int, 2) := by decide +kernel
theorem d_PN_init_30 : decode b_PN_init 30 = .ok (.putfield 22, 3) := by decide +kernel
theorem d_PN_init_33 : decode b_PN_init 33 = .ok (.aload_n 0, 1) := by decide +kernel
theorem d_PN_init_34 : decode b_PN_init 34 = .ok (.sipush 216, 3) := by decide +kernel
theorem d_PN_init_37 : decode b_PN_init 37 = .ok (.newarray .long, 2) := by decide +kernel
theorem d_PN_init_39 : decode b_PN_init 39 = .ok (.putfield 25, 3) := by decide +kernel
theorem d_PN_init_42 : decode b_PN_init 42 = .ok (.aload_n 0, 1) := by decide +kernel
theorem d_PN_init_43 : decode b_PN_init 43 = .ok (.sipush 216, 3) := by decide +kernel
theorem d_PN_init_46 : decode b_PN_init 46 = .ok (.newarray .boolean, 2) := by decide +kernel
theorem d_PN_init_48 : decode b_PN_init 48 = .ok (.putfield 29, 3) := by decide +kernel
theorem d_PN_init_51 : decode b_PN_init 51 = .ok (.aload_n 0, 1) := by decide +kernel
theorem d_PN_init_52 : decode b_PN_init 52 = .ok (.iconst 0, 1) := by decide +kernel
theorem d_PN_init_53 : decode b_PN_init 53 = .ok (.putfield 33, 3) := by decide +kernel
theorem d_PN_init_56 : decode b_PN_init 56 = .ok (.return_, 1) := by decide +kernel
theorem d_PN_put_0 : decode b_PN_put 0 = .ok (.aload_n 0, 1) := by decide +kernel
theorem d_PN_put_1 : decode b_PN_put 1 = .ok (.sipush 200, 3) := by decide +kernel
theorem d_PN_put_4 : decode b_PN_put 4 = .ok (.aload_n 1, 1) := by decide +kernel
theorem d_PN_put_5 : decode b_PN_put 5 = .ok (.invokevirtual 37, 3) := by decide +kernel
theorem d_PN_put_8 : decode b_PN_put 8 = .ok (.iadd, 1) := by decide +kernel
theorem d_PN_put_9 : decode b_PN_put 9 = .ok (.invokevirtual 43, 3) := by decide +kernel
theorem d_PN_put_12 : decode b_PN_put 12 = .ok (.aload_n 0, 1) := by decide +kernel
theorem d_PN_put_13 : decode b_PN_put 13 = .ok (.getfield 12, 3) := by decide +kernel
theorem d_PN_put_16 : decode b_PN_put 16 = .ok (.aload_n 1, 1) := by decide +kernel
theorem d_PN_put_17 : decode b_PN_put 17 = .ok (.invokevirtual 47, 3) := by decide +kernel
theorem d_PN_put_20 : decode b_PN_put 20 = .ok (.aload_n 0, 1) := by decide +kernel
theorem d_PN_put_21 : decode b_PN_put 21 = .ok (.aload_n 1, 1) := by decide +kernel
theorem d_PN_put_22 : decode b_PN_put 22 = .ok (.invokevirtual 51, 3) := by decide +kernel
theorem d_PN_put_25 : decode b_PN_put 25 = .ok (.aload_n 3, 1) := by decide +kernel
theorem d_PN_put_26 : decode b_PN_put 26 = .ok (.invokevirtual 54, 3) := by decide +kernel
theorem d_PN_put_29 : decode b_PN_put 29 = .ok (.aload_n 1, 1) := by decide +kernel
theorem d_PN_put_30 : decode b_PN_put 30 = .ok (.invokevirtual 37, 3) := by decide +kernel
theorem d_PN_put_33 : decode b_PN_put 33 = .ok (.istore 4, 2) := by decide +kernel
theorem d_PN_put_35 : decode b_PN_put 35 = .ok (.iconst 0, 1) := by decide +kernel
theorem d_PN_put_36 : decode b_PN_put 36 = .ok (.istore 5, 2) := by decide +kernel
theorem d_PN_put_38 : decode b_PN_put 38 = .ok (.iload 5, 2) := by decide +kernel
theorem d_PN_put_40 : decode b_PN_put 40 = .ok (.iload 4, 2) := by decide +kernel
theorem d_PN_put_42 : decode b_PN_put 42 = .ok (.if_icmp .ge 81, 3) := by decide +kernel
theorem d_PN_put_45 : decode b_PN_put 45 = .ok (.aload_n 0, 1) := by decide +kernel
theorem d_PN_put_46 : decode b_PN_put 46 = .ok (.getfield 12, 3) := by decide +kernel
theorem d_PN_put_49 : decode b_PN_put 49 = .ok (.iload 5, 2) := by decide +kernel
theorem d_PN_put_51 : decode b_PN_put 51 = .ok (.invokevirtual 57, 3) := by decide +kernel
theorem d_PN_put_54 : decode b_PN_put 54 = .ok (.aload_n 0, 1) := by decide +kernel
theorem d_PN_put_55 : decode b_PN_put 55 = .ok (.getfield 12, 3) := by decide +kernel
theorem d_PN_put_58 : decode b_PN_put 58 = .ok (.iload 5, 2) := by decide +kernel
theorem d_PN_put_60 : decode b_PN_put 60 = .ok (.invokevirtual 60, 3) := by decide +kernel
theorem d_PN_put_63 : decode b_PN_put 63 = .ok (.istore 6, 2) := by decide +kernel
theorem d_PN_put_65 : decode b_PN_put 65 = .ok (.iload 6, 2) := by decide +kernel
theorem d_PN_put_67 : decode b_PN_put 67 = .ok (.iconst (-1), 1) := by decide +kernel
theorem d_PN_put_68 : decode b_PN_put 68 = .ok (.if_icmp .eq 40, 3) := by decide +kernel
theorem d_PN_put_71 : decode b_PN_put 71 = .ok (.aload_n 1, 1) := by decide +kernel
theorem d_PN_put_72 : decode b_PN_put 72 = .ok (.iload 6, 2) := by decide +kernel
theorem d_PN_put_74 : decode b_PN_put 74 = .ok (.invokevirtual 64, 3) := by decide +kernel
theorem d_PN_put_77 : decode b_PN_put 77 = .ok (.iload 5, 2) := by decide +kernel
theorem d_PN_put_79 : decode b_PN_put 79 = .ok (.if_icmp .ne 29, 3) := by decide +kernel
theorem d_PN_put_82 : decode b_PN_put 82 = .ok (.aload_n 3, 1) := by decide +kernel
theorem d_PN_put_83 : decode b_PN_put 83 = .ok (.iload 6, 2) := by decide +kernel
theorem d_PN_put_85 : decode b_PN_put 85 = .ok (.invokevirtual 67, 3) := by decide +kernel
theorem d_PN_put_88 : decode b_PN_put 88 = .ok (.bipush 6, 2) := by decide +kernel
theorem d_PN_put_90 : decode b_PN_put 90 = .ok (.if_icmp .eq 18, 3) := by decide +kernel
theorem d_PN_put_93 : decode b_PN_put 93 = .ok (.aload_n 3, 1) := by decide +kernel
theorem d_PN_put_94 : decode b_PN_put 94 = .ok (.iload 6, 2) := by decide +kernel
theorem d_PN_put_96 : decode b_PN_put 96 = .ok (.aload_n 0, 1) := by decide +kernel
theorem d_PN_put_97 : decode b_PN_put 97 = .ok (.iload 6, 2) := by decide +kernel
theorem d_PN_put_99 : decode b_PN_put 99 = .ok (.aload_n 1, 1) := by decide +kernel
theorem d_PN_put_100 : decode b_PN_put 100 = .ok (.aload_n 2, 1) := by decide +kernel
theorem d_PN_put_101 : decode b_PN_put 101 = .ok (.aload_n 3, 1) := by decide +kernel
theorem d_PN_put_102 : decode b_PN_put 102 = .ok (.invokevirtual 70, 3) := by decide +kernel
theorem d_PN_put_105 : decode b_PN_put 105 = .ok (.invokevirtual 74, 3) := by decide +kernel
theorem d_PN_put_108 : decode b_PN_put 108 = .ok (.aload_n 0, 1) := by decide +kernel
theorem d_PN_put_109 : decode b_PN_put 109 = .ok (.iload 5, 2) := by decide +kernel
theorem d_PN_put_111 : decode b_PN_put 111 = .ok (.aload_n 1, 1) := by decide +kernel
theorem d_PN_put_112 : decode b_PN_put 112 = .ok (.aload_n 2, 1) := by decide +kernel
theorem d_PN_put_113 : decode b_PN_put 113 = .ok (.aload_n 3, 1) := by decide +kernel
theorem d_PN_put_114 : decode b_PN_put 114 = .ok (.invokevirtual 78, 3) := by decide +kernel
theorem d_PN_put_117 : decode b_PN_put 117 = .ok (.iinc 5 1, 3) := by decide +kernel
theorem d_PN_put_120 : decode b_PN_put 120 = .ok (.goto (-82), 3) := by decide +kernel
theorem d_PN_put_123 : decode b_PN_put 123 = .ok (.return_, 1) := by decide +kernel
theorem d_PN_linkUses_0 : decode b_PN_linkUses 0 = .ok (.sipush 200, 3) := by decide +kernel
theorem d_PN_linkUses_3 : decode b_PN_linkUses 3 = .ok (.aload_n 1, 1) := by decide +kernel
theorem d_PN_linkUses_4 : decode b_PN_linkUses 4 = .ok (.invokevirtual 37, 3) := by decide +kernel
theorem d_PN_linkUses_7 : decode b_PN_linkUses 7 = .ok (.iadd, 1) := by decide +kernel
theorem d_PN_linkUses_8 : decode b_PN_linkUses 8 = .ok (.istore_n 2, 1) := by decide +kernel
theorem d_PN_linkUses_9 : decode b_PN_linkUses 9 = .ok (.iconst 0, 1) := by decide +kernel
theorem d_PN_linkUses_10 : decode b_PN_linkUses 10 = .ok (.istore_n 3, 1) := by decide +kernel
theorem d_PN_linkUses_11 : decode b_PN_linkUses 11 = .ok (.iload_n 3, 1) := by decide +kernel
theorem d_PN_linkUses_12 : decode b_PN_linkUses 12 = .ok (.iload_n 2, 1) := by decide +kernel
theorem d_PN_linkUses_13 : decode b_PN_linkUses 13 = .ok (.if_icmp .ge 34, 3) := by decide +kernel
theorem d_PN_linkUses_16 : decode b_PN_linkUses 16 = .ok (.iload_n 3, 1) := by decide +kernel
theorem d_PN_linkUses_17 : decode b_PN_linkUses 17 = .ok (.aload_n 0, 1) := by decide +kernel
theorem d_PN_linkUses_18 : decode b_PN_linkUses 18 = .ok (.getfield 18, 3) := by decide +kernel
theorem d_PN_linkUses_21 : decode b_PN_linkUses 21 = .ok (.arraylength, 1) := by decide +kernel
theorem d_PN_linkUses_22 : decode b_PN_linkUses 22 = .ok (.if_icmp .ge 25, 3) := by decide +kernel
theorem d_PN_linkUses_25 : decode b_PN_linkUses 25 = .ok (.aload_n 0, 1) := by decide +kernel
theorem d_PN_linkUses_26 : decode b_PN_linkUses 26 = .ok (.getfield 18, 3) := by decide +kernel
theorem d_PN_linkUses_29 : decode b_PN_linkUses 29 = .ok (.iload_n 3, 1) := by decide +kernel
theorem d_PN_linkUses_30 : decode b_PN_linkUses 30 = .ok (.sipush 3000, 3) := by decide +kernel
theorem d_PN_linkUses_33 : decode b_PN_linkUses 33 = .ok (.iastore, 1) := by decide +kernel
theorem d_PN_linkUses_34 : decode b_PN_linkUses 34 = .ok (.aload_n 0, 1) := by decide +kernel
theorem d_PN_linkUses_35 : decode b_PN_linkUses 35 = .ok (.getfield 22, 3) := by decide +kernel
theorem d_PN_linkUses_38 : decode b_PN_linkUses 38 = .ok (.iload_n 3, 1) := by decide +kernel
theorem d_PN_linkUses_39 : decode b_PN_linkUses 39 = .ok (.iload_n 3, 1) := by decide +kernel
theorem d_PN_linkUses_40 : decode b_PN_linkUses 40 = .ok (.iastore, 1) := by decide +kernel
theorem d_PN_linkUses_41 : decode b_PN_linkUses 41 = .ok (.iinc 3 1, 3) := by decide +kernel
theorem d_PN_linkUses_44 : decode b_PN_linkUses 44 = .ok (.goto (-33), 3) := by decide +kernel
theorem d_PN_linkUses_47 : decode b_PN_linkUses 47 = .ok (.aload_n 1, 1) := by decide +kernel
theorem d_PN_linkUses_48 : decode b_PN_linkUses 48 = .ok (.invokevirtual 37, 3) := by decide +kernel
theorem d_PN_linkUses_51 : decode b_PN_linkUses 51 = .ok (.istore_n 3, 1) := by decide +kernel
theorem d_PN_linkUses_52 : decode b_PN_linkUses 52 = .ok (.iconst 0, 1) := by decide +kernel
theorem d_PN_linkUses_53 : decode b_PN_linkUses 53 = .ok (.istore 4, 2) := by decide +kernel
theorem d_PN_linkUses_55 : decode b_PN_linkUses 55 = .ok (.iload 4, 2) := by decide +kernel
theorem d_PN_linkUses_57 : decode b_PN_linkUses 57 = .ok (.iload_n 3, 1) := by decide +kernel
theorem d_PN_linkUses_58 : decode b_PN_linkUses 58 = .ok (.if_icmp .ge 59, 3) := by decide +kernel
theorem d_PN_linkUses_61 : decode b_PN_linkUses 61 = .ok (.aload_n 0, 1) := by decide +kernel
theorem d_PN_linkUses_62 : decode b_PN_linkUses 62 = .ok (.getfield 12, 3) := by decide +kernel
theorem d_PN_linkUses_65 : decode b_PN_linkUses 65 = .ok (.iload 4, 2) := by decide +kernel
theorem d_PN_linkUses_67 : decode b_PN_linkUses 67 = .ok (.invokevirtual 57, 3) := by decide +kernel
theorem d_PN_linkUses_70 : decode b_PN_linkUses 70 = .ok (.aload_n 0, 1) := by decide +kernel
theorem d_PN_linkUses_71 : decode b_PN_linkUses 71 = .ok (.iload 4, 2) := by decide +kernel
theorem d_PN_linkUses_73 : decode b_PN_linkUses 73 = .ok (.aload_n 1, 1) := by decide +kernel
theorem d_PN_linkUses_74 : decode b_PN_linkUses 74 = .ok (.invokevirtual 82, 3) := by decide +kernel
theorem d_PN_linkUses_77 : decode b_PN_linkUses 77 = .ok (.istore 5, 2) := by decide +kernel
theorem d_PN_linkUses_79 : decode b_PN_linkUses 79 = .ok (.iload 5, 2) := by decide +kernel
theorem d_PN_linkUses_81 : decode b_PN_linkUses 81 = .ok (.iconst (-1), 1) := by decide +kernel
theorem d_PN_linkUses_82 : decode b_PN_linkUses 82 = .ok (.if_icmp .eq 29, 3) := by decide +kernel
theorem d_PN_linkUses_85 : decode b_PN_linkUses 85 = .ok (.aload_n 0, 1) := by decide +kernel
theorem d_PN_linkUses_86 : decode b_PN_linkUses 86 = .ok (.aload_n 0, 1) := by decide +kernel
theorem d_PN_linkUses_87 : decode b_PN_linkUses 87 = .ok (.getfield 22, 3) := by decide +kernel
theorem d_PN_linkUses_90 : decode b_PN_linkUses 90 = .ok (.iload 5, 2) := by decide +kernel
theorem d_PN_linkUses_92 : decode b_PN_linkUses 92 = .ok (.iaload, 1) := by decide +kernel
theorem d_PN_linkUses_93 : decode b_PN_linkUses 93 = .ok (.iload 4, 2) := by decide +kernel
theorem d_PN_linkUses_95 : decode b_PN_linkUses 95 = .ok (.invokevirtual 86, 3) := by decide +kernel
theorem d_PN_linkUses_98 : decode b_PN_linkUses 98 = .ok (.aload_n 0, 1) := by decide +kernel
theorem d_PN_linkUses_99 : decode b_PN_linkUses 99 = .ok (.getfield 22, 3) := by decide +kernel
theorem d_PN_linkUses_102 : decode b_PN_linkUses 102 = .ok (.iload 5, 2) := by decide +kernel
theorem d_PN_linkUses_104 : decode b_PN_linkUses 104 = .ok (.sipush 200, 3) := by decide +kernel
theorem d_PN_linkUses_107 : decode b_PN_linkUses 107 = .ok (.iload 4, 2) := by decide +kernel
theorem d_PN_linkUses_109 : decode b_PN_linkUses 109 = .ok (.iadd, 1) := by decide +kernel
theorem d_PN_linkUses_110 : decode b_PN_linkUses 110 = .ok (.iastore, 1) := by decide +kernel
theorem d_PN_linkUses_111 : decode b_PN_linkUses 111 = .ok (.iinc 4 1, 3) := by decide +kernel
theorem d_PN_linkUses_114 : decode b_PN_linkUses 114 = .ok (.goto (-59), 3) := by decide +kernel
theorem d_PN_linkUses_117 : decode b_PN_linkUses 117 = .ok (.return_, 1) := by decide +kernel
theorem d_PN_usedBy_0 : decode b_PN_usedBy 0 = .ok (.ldc2_w 90, 3) := by decide +kernel
theorem d_PN_usedBy_3 : decode b_PN_usedBy 3 = .ok (.lstore_n 3, 1) := by decide +kernel
theorem d_PN_usedBy_4 : decode b_PN_usedBy 4 = .ok (.aload_n 2, 1) := by decide +kernel
theorem d_PN_usedBy_5 : decode b_PN_usedBy 5 = .ok (.iload_n 1, 1) := by decide +kernel
theorem d_PN_usedBy_6 : decode b_PN_usedBy 6 = .ok (.invokevirtual 67, 3) := by decide +kernel
theorem d_PN_usedBy_9 : decode b_PN_usedBy 9 = .ok (.bipush 7, 2) := by decide +kernel
theorem d_PN_usedBy_11 : decode b_PN_usedBy 11 = .ok (.if_icmp .ne 12, 3) := by decide +kernel
theorem d_PN_usedBy_14 : decode b_PN_usedBy 14 = .ok (.aload_n 2, 1) := by decide +kernel
theorem d_PN_usedBy_15 : decode b_PN_usedBy 15 = .ok (.iload_n 1, 1) := by decide +kernel
theorem d_PN_usedBy_16 : decode b_PN_usedBy 16 = .ok (.invokevirtual 92, 3) := by decide +kernel
theorem d_PN_usedBy_19 : decode b_PN_usedBy 19 = .ok (.lstore_n 3, 1) := by decide +kernel
theorem d_PN_usedBy_20 : decode b_PN_usedBy 20 = .ok (.goto 30, 3) := by decide +kernel
theorem d_PN_usedBy_23 : decode b_PN_usedBy 23 = .ok (.aload_n 2, 1) := by decide +kernel
theorem d_PN_usedBy_24 : decode b_PN_usedBy 24 = .ok (.iload_n 1, 1) := by decide +kernel
theorem d_PN_usedBy_25 : decode b_PN_usedBy 25 = .ok (.invokevirtual 67, 3) := by decide +kernel
theorem d_PN_usedBy_28 : decode b_PN_usedBy 28 = .ok (.ifCond .ne 22, 3) := by decide +kernel
theorem d_PN_usedBy_31 : decode b_PN_usedBy 31 = .ok (.sipush 200, 3) := by decide +kernel
theorem d_PN_usedBy_34 : decode b_PN_usedBy 34 = .ok (.aload_n 0, 1) := by decide +kernel
theorem d_PN_usedBy_35 : decode b_PN_usedBy 35 = .ok (.getfield 12, 3) := by decide +kernel
theorem d_PN_usedBy_38 : decode b_PN_usedBy 38 = .ok (.iload_n 1, 1) := by decide +kernel
theorem d_PN_usedBy_39 : decode b_PN_usedBy 39 = .ok (.aload_n 2, 1) := by decide +kernel
theorem d_PN_usedBy_40 : decode b_PN_usedBy 40 = .ok (.iload_n 1, 1) := by decide +kernel
theorem d_PN_usedBy_41 : decode b_PN_usedBy 41 = .ok (.invokevirtual 92, 3) := by decide +kernel
theorem d_PN_usedBy_44 : decode b_PN_usedBy 44 = .ok (.invokevirtual 96, 3) := by decide +kernel
theorem d_PN_usedBy_47 : decode b_PN_usedBy 47 = .ok (.iadd, 1) := by decide +kernel
theorem d_PN_usedBy_48 : decode b_PN_usedBy 48 = .ok (.i2l, 1) := by decide +kernel
theorem d_PN_usedBy_49 : decode b_PN_usedBy 49 = .ok (.lstore_n 3, 1) := by decide +kernel
theorem d_PN_usedBy_50 : decode b_PN_usedBy 50 = .ok (.lload_n 3, 1) := by decide +kernel
theorem d_PN_usedBy_51 : decode b_PN_usedBy 51 = .ok (.lconst 0, 1) := by decide +kernel
theorem d_PN_usedBy_52 : decode b_PN_usedBy 52 = .ok (.lcmp, 1) := by decide +kernel
theorem d_PN_usedBy_53 : decode b_PN_usedBy 53 = .ok (.ifCond .lt 19, 3) := by decide +kernel
theorem d_PN_usedBy_56 : decode b_PN_usedBy 56 = .ok (.lload_n 3, 1) := by decide +kernel
theorem d_PN_usedBy_57 : decode b_PN_usedBy 57 = .ok (.aload_n 0, 1) := by decide +kernel
theorem d_PN_usedBy_58 : decode b_PN_usedBy 58 = .ok (.getfield 22, 3) := by decide +kernel
theorem d_PN_usedBy_61 : decode b_PN_usedBy 61 = .ok (.arraylength, 1) := by decide +kernel
theorem d_PN_usedBy_62 : decode b_PN_usedBy 62 = .ok (.i2l, 1) := by decide +kernel
theorem d_PN_usedBy_63 : decode b_PN_usedBy 63 = .ok (.lcmp, 1) := by decide +kernel
theorem d_PN_usedBy_64 : decode b_PN_usedBy 64 = .ok (.ifCond .ge 8, 3) := by decide +kernel
theorem d_PN_usedBy_67 : decode b_PN_usedBy 67 = .ok (.lload_n 3, 1) := by decide +kernel
theorem d_PN_usedBy_68 : decode b_PN_usedBy 68 = .ok (.l2i, 1) := by decide +kernel
theorem d_PN_usedBy_69 : decode b_PN_usedBy 69 = .ok (.goto 4, 3) := by decide +kernel
theorem d_PN_usedBy_72 : decode b_PN_usedBy 72 = .ok (.iconst (-1), 1) := by decide +kernel
theorem d_PN_usedBy_73 : decode b_PN_usedBy 73 = .ok (.ireturn, 1) := by decide +kernel
theorem d_PN_nextOf_0 : decode b_PN_nextOf 0 = .ok (.iload_n 1, 1) := by decide +kernel
theorem d_PN_nextOf_1 : decode b_PN_nextOf 1 = .ok (.ifCond .lt 21, 3) := by decide +kernel
theorem d_PN_nextOf_4 : decode b_PN_nextOf 4 = .ok (.iload_n 1, 1) := by decide +kernel
theorem d_PN_nextOf_5 : decode b_PN_nextOf 5 = .ok (.aload_n 0, 1) := by decide +kernel
theorem d_PN_nextOf_6 : decode b_PN_nextOf 6 = .ok (.getfield 18, 3) := by decide +kernel
theorem d_PN_nextOf_9 : decode b_PN_nextOf 9 = .ok (.arraylength, 1) := by decide +kernel
theorem d_PN_nextOf_10 : decode b_PN_nextOf 10 = .ok (.if_icmp .ge 12, 3) := by decide +kernel
theorem d_PN_nextOf_13 : decode b_PN_nextOf 13 = .ok (.aload_n 0, 1) := by decide +kernel
theorem d_PN_nextOf_14 : decode b_PN_nextOf 14 = .ok (.getfield 18, 3) := by decide +kernel
theorem d_PN_nextOf_17 : decode b_PN_nextOf 17 = .ok (.iload_n 1, 1) := by decide +kernel
theorem d_PN_nextOf_18 : decode b_PN_nextOf 18 = .ok (.iaload, 1) := by decide +kernel
theorem d_PN_nextOf_19 : decode b_PN_nextOf 19 = .ok (.goto 6, 3) := by decide +kernel
theorem d_PN_nextOf_22 : decode b_PN_nextOf 22 = .ok (.sipush 3000, 3) := by decide +kernel
theorem d_PN_nextOf_25 : decode b_PN_nextOf 25 = .ok (.ireturn, 1) := by decide +kernel
theorem d_PN_setNext_0 : decode b_PN_setNext 0 = .ok (.iload_n 1, 1) := by decide +kernel
theorem d_PN_setNext_1 : decode b_PN_setNext 1 = .ok (.ifCond .lt 19, 3) := by decide +kernel
theorem d_PN_setNext_4 : decode b_PN_setNext 4 = .ok (.iload_n 1, 1) := by decide +kernel
theorem d_PN_setNext_5 : decode b_PN_setNext 5 = .ok (.aload_n 0, 1) := by decide +kernel
theorem d_PN_setNext_6 : decode b_PN_setNext 6 = .ok (.getfield 18, 3) := by decide +kernel
theorem d_PN_setNext_9 : decode b_PN_setNext 9 = .ok (.arraylength, 1) := by decide +kernel
theorem d_PN_setNext_10 : decode b_PN_setNext 10 = .ok (.if_icmp .ge 10, 3) := by decide +kernel
theorem d_PN_setNext_13 : decode b_PN_setNext 13 = .ok (.aload_n 0, 1) := by decide +kernel
theorem d_PN_setNext_14 : decode b_PN_setNext 14 = .ok (.getfield 18, 3) := by decide +kernel
theorem d_PN_setNext_17 : decode b_PN_setNext 17 = .ok (.iload_n 1, 1) := by decide +kernel
theorem d_PN_setNext_18 : decode b_PN_setNext 18 = .ok (.iload_n 2, 1) := by decide +kernel
theorem d_PN_setNext_19 : decode b_PN_setNext 19 = .ok (.iastore, 1) := by decide +kernel
theorem d_PN_setNext_20 : decode b_PN_setNext 20 = .ok (.return_, 1) := by decide +kernel
theorem d_PN_putNode_0 : decode b_PN_putNode 0 = .ok (.aload_n 2, 1) := by decide +kernel
theorem d_PN_putNode_1 : decode b_PN_putNode 1 = .ok (.iload_n 1, 1) := by decide +kernel
theorem d_PN_putNode_2 : decode b_PN_putNode 2 = .ok (.invokevirtual 67, 3) := by decide +kernel
theorem d_PN_putNode_5 : decode b_PN_putNode 5 = .ok (.istore 5, 2) := by decide +kernel
theorem d_PN_putNode_7 : decode b_PN_putNode 7 = .ok (.aload_n 2, 1) := by decide +kernel
theorem d_PN_putNode_8 : decode b_PN_putNode 8 = .ok (.iload_n 1, 1) := by decide +kernel
theorem d_PN_putNode_9 : decode b_PN_putNode 9 = .ok (.invokevirtual 92, 3) := by decide +kernel
theorem d_PN_putNode_12 : decode b_PN_putNode 12 = .ok (.lstore 6, 2) := by decide +kernel
theorem d_PN_putNode_14 : decode b_PN_putNode 14 = .ok (.iload 5, 2) := by decide +kernel
theorem d_PN_putNode_16 : decode b_PN_putNode 16 = .ok (.lookupswitch 129 #[(0, 36), (2, 87), (7, 66)], 36) := by decide +kernel
theorem d_PN_putNode_52 : decode b_PN_putNode 52 = .ok (.aload 4, 2) := by decide +kernel
theorem d_PN_putNode_54 : decode b_PN_putNode 54 = .ok (.iconst 0, 1) := by decide +kernel
theorem d_PN_putNode_55 : decode b_PN_putNode 55 = .ok (.aload 4, 2) := by decide +kernel
theorem d_PN_putNode_57 : decode b_PN_putNode 57 = .ok (.aload_n 0, 1) := by decide +kernel
theorem d_PN_putNode_58 : decode b_PN_putNode 58 = .ok (.getfield 12, 3) := by decide +kernel
theorem d_PN_putNode_61 : decode b_PN_putNode 61 = .ok (.iload_n 1, 1) := by decide +kernel
theorem d_PN_putNode_62 : decode b_PN_putNode 62 = .ok (.lload 6, 2) := by decide +kernel
theorem d_PN_putNode_64 : decode b_PN_putNode 64 = .ok (.invokevirtual 96, 3) := by decide +kernel
theorem d_PN_putNode_67 : decode b_PN_putNode 67 = .ok (.invokevirtual 92, 3) := by decide +kernel
theorem d_PN_putNode_70 : decode b_PN_putNode 70 = .ok (.invokevirtual 100, 3) := by decide +kernel
theorem d_PN_putNode_73 : decode b_PN_putNode 73 = .ok (.aload_n 0, 1) := by decide +kernel
theorem d_PN_putNode_74 : decode b_PN_putNode 74 = .ok (.iload_n 1, 1) := by decide +kernel
theorem d_PN_putNode_75 : decode b_PN_putNode 75 = .ok (.aload_n 2, 1) := by decide +kernel
theorem d_PN_putNode_76 : decode b_PN_putNode 76 = .ok (.invokevirtual 103, 3) := by decide +kernel
theorem d_PN_putNode_79 : decode b_PN_putNode 79 = .ok (.goto 75, 3) := by decide +kernel
theorem d_PN_putNode_82 : decode b_PN_putNode 82 = .ok (.aload 4, 2) := by decide +kernel
theorem d_PN_putNode_84 : decode b_PN_putNode 84 = .ok (.iconst 0, 1) := by decide +kernel
theorem d_PN_putNode_85 : decode b_PN_putNode 85 = .ok (.aload_n 3, 1) := by decide +kernel
theorem d_PN_putNode_86 : decode b_PN_putNode 86 = .ok (.lload 6, 2) := by decide +kernel
theorem d_PN_putNode_88 : decode b_PN_putNode 88 = .ok (.invokevirtual 107, 3) := by decide +kernel
theorem d_PN_putNode_91 : decode b_PN_putNode 91 = .ok (.invokevirtual 100, 3) := by decide +kernel
theorem d_PN_putNode_94 : decode b_PN_putNode 94 = .ok (.aload_n 0, 1) := by decide +kernel
theorem d_PN_putNode_95 : decode b_PN_putNode 95 = .ok (.iload_n 1, 1) := by decide +kernel
theorem d_PN_putNode_96 : decode b_PN_putNode 96 = .ok (.aload_n 2, 1) := by decide +kernel
theorem d_PN_putNode_97 : decode b_PN_putNode 97 = .ok (.invokevirtual 103, 3) := by decide +kernel
theorem d_PN_putNode_100 : decode b_PN_putNode 100 = .ok (.goto 54, 3) := by decide +kernel
theorem d_PN_putNode_103 : decode b_PN_putNode 103 = .ok (.aload_n 0, 1) := by decide +kernel
theorem d_PN_putNode_104 : decode b_PN_putNode 104 = .ok (.sipush 200, 3) := by decide +kernel
theorem d_PN_putNode_107 : decode b_PN_putNode 107 = .ok (.iload_n 1, 1) := by decide +kernel
theorem d_PN_putNode_108 : decode b_PN_putNode 108 = .ok (.iadd, 1) := by decide +kernel
theorem d_PN_putNode_109 : decode b_PN_putNode 109 = .ok (.invokevirtual 113, 3) := by decide +kernel
theorem d_PN_putNode_112 : decode b_PN_putNode 112 = .ok (.sipush 3000, 3) := by decide +kernel
theorem d_PN_putNode_115 : decode b_PN_putNode 115 = .ok (.if_icmp .eq 7, 3) := by decide +kernel
theorem d_PN_putNode_118 : decode b_PN_putNode 118 = .ok (.iconst 1, 1) := by decide +kernel
theorem d_PN_putNode_119 : decode b_PN_putNode 119 = .ok (.goto 4, 3) := by decide +kernel
theorem d_PN_putNode_122 : decode b_PN_putNode 122 = .ok (.iconst 0, 1) := by decide +kernel
theorem d_PN_putNode_123 : decode b_PN_putNode 123 = .ok (.istore 8, 2) := by decide +kernel
theorem d_PN_putNode_125 : decode b_PN_putNode 125 = .ok (.aload 4, 2) := by decide +kernel
theorem d_PN_putNode_127 : decode b_PN_putNode 127 = .ok (.iload 8, 2) := by decide +kernel
theorem d_PN_putNode_129 : decode b_PN_putNode 129 = .ok (.ifCond .eq 7, 3) := by decide +kernel
theorem d_PN_putNode_132 : decode b_PN_putNode 132 = .ok (.iconst 2, 1) := by decide +kernel
theorem d_PN_putNode_133 : decode b_PN_putNode 133 = .ok (.goto 5, 3) := by decide +kernel
theorem d_PN_putNode_136 : decode b_PN_putNode 136 = .ok (.bipush 6, 2) := by decide +kernel
theorem d_PN_putNode_138 : decode b_PN_putNode 138 = .ok (.lconst 0, 1) := by decide +kernel
theorem d_PN_putNode_139 : decode b_PN_putNode 139 = .ok (.invokevirtual 100, 3) := by decide +kernel
theorem d_PN_putNode_142 : decode b_PN_putNode 142 = .ok (.goto 12, 3) := by decide +kernel
theorem d_PN_putNode_145 : decode b_PN_putNode 145 = .ok (.aload 4, 2) := by decide +kernel
theorem d_PN_putNode_147 : decode b_PN_putNode 147 = .ok (.iload 5, 2) := by decide +kernel
theorem d_PN_putNode_149 : decode b_PN_putNode 149 = .ok (.lload 6, 2) := by decide +kernel
theorem d_PN_putNode_151 : decode b_PN_putNode 151 = .ok (.invokevirtual 100, 3) := by decide +kernel
theorem d_PN_putNode_154 : decode b_PN_putNode 154 = .ok (.return_, 1) := by decide +kernel
theorem d_PN_passUse_0 : decode b_PN_passUse 0 = .ok (.aload_n 0, 1) := by decide +kernel
theorem d_PN_passUse_1 : decode b_PN_passUse 1 = .ok (.aload_n 0, 1) := by decide +kernel
theorem d_PN_passUse_2 : decode b_PN_passUse 2 = .ok (.iload_n 1, 1) := by decide +kernel
theorem d_PN_passUse_3 : decode b_PN_passUse 3 = .ok (.aload_n 2, 1) := by decide +kernel
theorem d_PN_passUse_4 : decode b_PN_passUse 4 = .ok (.invokevirtual 82, 3) := by decide +kernel
theorem d_PN_passUse_7 : decode b_PN_passUse 7 = .ok (.aload_n 0, 1) := by decide +kernel
theorem d_PN_passUse_8 : decode b_PN_passUse 8 = .ok (.sipush 200, 3) := by decide +kernel
theorem d_PN_passUse_11 : decode b_PN_passUse 11 = .ok (.iload_n 1, 1) := by decide +kernel
theorem d_PN_passUse_12 : decode b_PN_passUse 12 = .ok (.iadd, 1) := by decide +kernel
theorem d_PN_passUse_13 : decode b_PN_passUse 13 = .ok (.invokevirtual 113, 3) := by decide +kernel
theorem d_PN_passUse_16 : decode b_PN_passUse 16 = .ok (.invokevirtual 86, 3) := by decide +kernel
theorem d_PN_passUse_19 : decode b_PN_passUse 19 = .ok (.return_, 1) := by decide +kernel
theorem d_PN_chooseName_0 : decode b_PN_chooseName 0 = .ok (.aload_n 2, 1) := by decide +kernel
theorem d_PN_chooseName_1 : decode b_PN_chooseName 1 = .ok (.iload_n 1, 1) := by decide +kernel
theorem d_PN_chooseName_2 : decode b_PN_chooseName 2 = .ok (.invokevirtual 92, 3) := by decide +kernel
theorem d_PN_chooseName_5 : decode b_PN_chooseName 5 = .ok (.lconst 0, 1) := by decide +kernel
theorem d_PN_chooseName_6 : decode b_PN_chooseName 6 = .ok (.lcmp, 1) := by decide +kernel
theorem d_PN_chooseName_7 : decode b_PN_chooseName 7 = .ok (.ifCond .ne 9, 3) := by decide +kernel
theorem d_PN_chooseName_10 : decode b_PN_chooseName 10 = .ok (.ldc2_w 118, 3) := by decide +kernel
theorem d_PN_chooseName_13 : decode b_PN_chooseName 13 = .ok (.goto 8, 3) := by decide +kernel
theorem d_PN_chooseName_16 : decode b_PN_chooseName 16 = .ok (.aload_n 2, 1) := by decide +kernel
theorem d_PN_chooseName_17 : decode b_PN_chooseName 17 = .ok (.iload_n 1, 1) := by decide +kernel
theorem d_PN_chooseName_18 : decode b_PN_chooseName 18 = .ok (.invokevirtual 92, 3) := by decide +kernel
theorem d_PN_chooseName_21 : decode b_PN_chooseName 21 = .ok (.lstore 5, 2) := by decide +kernel
theorem d_PN_chooseName_23 : decode b_PN_chooseName 23 = .ok (.aload_n 0, 1) := by decide +kernel
theorem d_PN_chooseName_24 : decode b_PN_chooseName 24 = .ok (.iload_n 1, 1) := by decide +kernel
theorem d_PN_chooseName_25 : decode b_PN_chooseName 25 = .ok (.aload_n 2, 1) := by decide +kernel
theorem d_PN_chooseName_26 : decode b_PN_chooseName 26 = .ok (.iload_n 1, 1) := by decide +kernel
theorem d_PN_chooseName_27 : decode b_PN_chooseName 27 = .ok (.invokevirtual 120, 3) := by decide +kernel
theorem d_PN_chooseName_30 : decode b_PN_chooseName 30 = .ok (.aload_n 3, 1) := by decide +kernel
theorem d_PN_chooseName_31 : decode b_PN_chooseName 31 = .ok (.aload 4, 2) := by decide +kernel
theorem d_PN_chooseName_33 : decode b_PN_chooseName 33 = .ok (.invokevirtual 123, 3) := by decide +kernel
theorem d_PN_chooseName_36 : decode b_PN_chooseName 36 = .ok (.iconst 0, 1) := by decide +kernel
theorem d_PN_chooseName_37 : decode b_PN_chooseName 37 = .ok (.istore 7, 2) := by decide +kernel
theorem d_PN_chooseName_39 : decode b_PN_chooseName 39 = .ok (.iload 7, 2) := by decide +kernel
theorem d_PN_chooseName_41 : decode b_PN_chooseName 41 = .ok (.aload_n 0, 1) := by decide +kernel
theorem d_PN_chooseName_42 : decode b_PN_chooseName 42 = .ok (.getfield 33, 3) := by decide +kernel
theorem d_PN_chooseName_45 : decode b_PN_chooseName 45 = .ok (.if_icmp .ge 44, 3) := by decide +kernel
theorem d_PN_chooseName_48 : decode b_PN_chooseName 48 = .ok (.iload 7, 2) := by decide +kernel
theorem d_PN_chooseName_50 : decode b_PN_chooseName 50 = .ok (.aload_n 0, 1) := by decide +kernel
theorem d_PN_chooseName_51 : decode b_PN_chooseName 51 = .ok (.getfield 25, 3) := by decide +kernel
theorem d_PN_chooseName_54 : decode b_PN_chooseName 54 = .ok (.arraylength, 1) := by decide +kernel
theorem d_PN_chooseName_55 : decode b_PN_chooseName 55 = .ok (.if_icmp .ge 34, 3) := by decide +kernel
theorem d_PN_chooseName_58 : decode b_PN_chooseName 58 = .ok (.aload_n 0, 1) := by decide +kernel
theorem d_PN_chooseName_59 : decode b_PN_chooseName 59 = .ok (.getfield 25, 3) := by decide +kernel
theorem d_PN_chooseName_62 : decode b_PN_chooseName 62 = .ok (.iload 7, 2) := by decide +kernel
theorem d_PN_chooseName_64 : decode b_PN_chooseName 64 = .ok (.laload, 1) := by decide +kernel
theorem d_PN_chooseName_65 : decode b_PN_chooseName 65 = .ok (.lload 5, 2) := by decide +kernel
theorem d_PN_chooseName_67 : decode b_PN_chooseName 67 = .ok (.lcmp, 1) := by decide +kernel
theorem d_PN_chooseName_68 : decode b_PN_chooseName 68 = .ok (.ifCond .ne 15, 3) := by decide +kernel
theorem d_PN_chooseName_71 : decode b_PN_chooseName 71 = .ok (.lload 5, 2) := by decide +kernel
theorem d_PN_chooseName_73 : decode b_PN_chooseName 73 = .ok (.aload_n 0, 1) := by decide +kernel
theorem d_PN_chooseName_74 : decode b_PN_chooseName 74 = .ok (.lload 5, 2) := by decide +kernel
theorem d_PN_chooseName_76 : decode b_PN_chooseName 76 = .ok (.invokevirtual 127, 3) := by decide +kernel
theorem d_PN_chooseName_79 : decode b_PN_chooseName 79 = .ok (.invokestatic 131, 3) := by decide +kernel
theorem d_PN_chooseName_82 : decode b_PN_chooseName 82 = .ok (.lreturn, 1) := by decide +kernel
theorem d_PN_chooseName_83 : decode b_PN_chooseName 83 = .ok (.iinc 7 1, 3) := by decide +kernel
theorem d_PN_chooseName_86 : decode b_PN_chooseName 86 = .ok (.goto (-47), 3) := by decide +kernel
theorem d_PN_chooseName_89 : decode b_PN_chooseName 89 = .ok (.lload 5, 2) := by decide +kernel
theorem d_PN_chooseName_91 : decode b_PN_chooseName 91 = .ok (.lreturn, 1) := by decide +kernel
theorem d_PN_gatherNear_0 : decode b_PN_gatherNear 0 = .ok (.aload_n 0, 1) := by decide +kernel
theorem d_PN_gatherNear_1 : decode b_PN_gatherNear 1 = .ok (.iconst 0, 1) := by decide +kernel
theorem d_PN_gatherNear_2 : decode b_PN_gatherNear 2 = .ok (.putfield 33, 3) := by decide +kernel
theorem d_PN_gatherNear_5 : decode b_PN_gatherNear 5 = .ok (.aload_n 3, 1) := by decide +kernel
theorem d_PN_gatherNear_6 : decode b_PN_gatherNear 6 = .ok (.invokevirtual 135, 3) := by decide +kernel
theorem d_PN_gatherNear_9 : decode b_PN_gatherNear 9 = .ok (.istore 5, 2) := by decide +kernel
theorem d_PN_gatherNear_11 : decode b_PN_gatherNear 11 = .ok (.iconst 0, 1) := by decide +kernel
theorem d_PN_gatherNear_12 : decode b_PN_gatherNear 12 = .ok (.istore 6, 2) := by decide +kernel
theorem d_PN_gatherNear_14 : decode b_PN_gatherNear 14 = .ok (.iload 6, 2) := by decide +kernel
theorem d_PN_gatherNear_16 : decode b_PN_gatherNear 16 = .ok (.iload 5, 2) := by decide +kernel
theorem d_PN_gatherNear_18 : decode b_PN_gatherNear 18 = .ok (.if_icmp .ge 30, 3) := by decide +kernel
theorem d_PN_gatherNear_21 : decode b_PN_gatherNear 21 = .ok (.aload_n 0, 1) := by decide +kernel
theorem d_PN_gatherNear_22 : decode b_PN_gatherNear 22 = .ok (.iload 6, 2) := by decide +kernel
theorem d_PN_gatherNear_24 : decode b_PN_gatherNear 24 = .ok (.invokevirtual 113, 3) := by decide +kernel
theorem d_PN_gatherNear_27 : decode b_PN_gatherNear 27 = .ok (.iload_n 2, 1) := by decide +kernel
theorem d_PN_gatherNear_28 : decode b_PN_gatherNear 28 = .ok (.if_icmp .ge 14, 3) := by decide +kernel
theorem d_PN_gatherNear_31 : decode b_PN_gatherNear 31 = .ok (.aload_n 0, 1) := by decide +kernel
theorem d_PN_gatherNear_32 : decode b_PN_gatherNear 32 = .ok (.aload_n 3, 1) := by decide +kernel
theorem d_PN_gatherNear_33 : decode b_PN_gatherNear 33 = .ok (.iload 6, 2) := by decide +kernel
theorem d_PN_gatherNear_35 : decode b_PN_gatherNear 35 = .ok (.i2l, 1) := by decide +kernel
theorem d_PN_gatherNear_36 : decode b_PN_gatherNear 36 = .ok (.invokevirtual 107, 3) := by decide +kernel
theorem d_PN_gatherNear_39 : decode b_PN_gatherNear 39 = .ok (.invokevirtual 136, 3) := by decide +kernel
theorem d_PN_gatherNear_42 : decode b_PN_gatherNear 42 = .ok (.iinc 6 1, 3) := by decide +kernel
theorem d_PN_gatherNear_45 : decode b_PN_gatherNear 45 = .ok (.goto (-31), 3) := by decide +kernel
theorem d_PN_gatherNear_48 : decode b_PN_gatherNear 48 = .ok (.aload_n 0, 1) := by decide +kernel
theorem d_PN_gatherNear_49 : decode b_PN_gatherNear 49 = .ok (.getfield 12, 3) := by decide +kernel
theorem d_PN_gatherNear_52 : decode b_PN_gatherNear 52 = .ok (.iload_n 1, 1) := by decide +kernel
theorem d_PN_gatherNear_53 : decode b_PN_gatherNear 53 = .ok (.invokevirtual 140, 3) := by decide +kernel
theorem d_PN_gatherNear_56 : decode b_PN_gatherNear 56 = .ok (.istore 6, 2) := by decide +kernel
theorem d_PN_gatherNear_58 : decode b_PN_gatherNear 58 = .ok (.iconst 0, 1) := by decide +kernel
theorem d_PN_gatherNear_59 : decode b_PN_gatherNear 59 = .ok (.istore 7, 2) := by decide +kernel
theorem d_PN_gatherNear_61 : decode b_PN_gatherNear 61 = .ok (.iload 7, 2) := by decide +kernel
theorem d_PN_gatherNear_63 : decode b_PN_gatherNear 63 = .ok (.iload 6, 2) := by decide +kernel
theorem d_PN_gatherNear_65 : decode b_PN_gatherNear 65 = .ok (.if_icmp .ge 45, 3) := by decide +kernel
theorem d_PN_gatherNear_68 : decode b_PN_gatherNear 68 = .ok (.aload_n 0, 1) := by decide +kernel
theorem d_PN_gatherNear_69 : decode b_PN_gatherNear 69 = .ok (.getfield 12, 3) := by decide +kernel
theorem d_PN_gatherNear_72 : decode b_PN_gatherNear 72 = .ok (.iload 7, 2) := by decide +kernel
theorem d_PN_gatherNear_74 : decode b_PN_gatherNear 74 = .ok (.invokevirtual 143, 3) := by decide +kernel
theorem d_PN_gatherNear_77 : decode b_PN_gatherNear 77 = .ok (.istore 8, 2) := by decide +kernel
theorem d_PN_gatherNear_79 : decode b_PN_gatherNear 79 = .ok (.aload_n 0, 1) := by decide +kernel
theorem d_PN_gatherNear_80 : decode b_PN_gatherNear 80 = .ok (.sipush 200, 3) := by decide +kernel
theorem d_PN_gatherNear_83 : decode b_PN_gatherNear 83 = .ok (.iload 8, 2) := by decide +kernel
theorem d_PN_gatherNear_85 : decode b_PN_gatherNear 85 = .ok (.iadd, 1) := by decide +kernel
theorem d_PN_gatherNear_86 : decode b_PN_gatherNear 86 = .ok (.invokevirtual 113, 3) := by decide +kernel
theorem d_PN_gatherNear_89 : decode b_PN_gatherNear 89 = .ok (.iload_n 2, 1) := by decide +kernel
theorem d_PN_gatherNear_90 : decode b_PN_gatherNear 90 = .ok (.if_icmp .ge 14, 3) := by decide +kernel
theorem d_PN_gatherNear_93 : decode b_PN_gatherNear 93 = .ok (.aload_n 0, 1) := by decide +kernel
theorem d_PN_gatherNear_94 : decode b_PN_gatherNear 94 = .ok (.aload 4, 2) := by decide +kernel
theorem d_PN_gatherNear_96 : decode b_PN_gatherNear 96 = .ok (.iload 8, 2) := by decide +kernel
theorem d_PN_gatherNear_98 : decode b_PN_gatherNear 98 = .ok (.invokevirtual 92, 3) := by decide +kernel
theorem d_PN_gatherNear_101 : decode b_PN_gatherNear 101 = .ok (.invokevirtual 136, 3) := by decide +kernel
theorem d_PN_gatherNear_104 : decode b_PN_gatherNear 104 = .ok (.iinc 7 1, 3) := by decide +kernel
theorem d_PN_gatherNear_107 : decode b_PN_gatherNear 107 = .ok (.goto (-46), 3) := by decide +kernel
theorem d_PN_gatherNear_110 : decode b_PN_gatherNear 110 = .ok (.return_, 1) := by decide +kernel
theorem d_PN_addNear_0 : decode b_PN_addNear 0 = .ok (.aload_n 0, 1) := by decide +kernel
theorem d_PN_addNear_1 : decode b_PN_addNear 1 = .ok (.getfield 33, 3) := by decide +kernel
theorem d_PN_addNear_4 : decode b_PN_addNear 4 = .ok (.aload_n 0, 1) := by decide +kernel
theorem d_PN_addNear_5 : decode b_PN_addNear 5 = .ok (.getfield 25, 3) := by decide +kernel
theorem d_PN_addNear_8 : decode b_PN_addNear 8 = .ok (.arraylength, 1) := by decide +kernel
theorem d_PN_addNear_9 : decode b_PN_addNear 9 = .ok (.if_icmp .ge 23, 3) := by decide +kernel
theorem d_PN_addNear_12 : decode b_PN_addNear 12 = .ok (.aload_n 0, 1) := by decide +kernel
theorem d_PN_addNear_13 : decode b_PN_addNear 13 = .ok (.getfield 25, 3) := by decide +kernel
theorem d_PN_addNear_16 : decode b_PN_addNear 16 = .ok (.aload_n 0, 1) := by decide +kernel
theorem d_PN_addNear_17 : decode b_PN_addNear 17 = .ok (.getfield 33, 3) := by decide +kernel
theorem d_PN_addNear_20 : decode b_PN_addNear 20 = .ok (.lload_n 1, 1) := by decide +kernel
theorem d_PN_addNear_21 : decode b_PN_addNear 21 = .ok (.lastore, 1) := by decide +kernel
theorem d_PN_addNear_22 : decode b_PN_addNear 22 = .ok (.aload_n 0, 1) := by decide +kernel
theorem d_PN_addNear_23 : decode b_PN_addNear 23 = .ok (.dup, 1) := by decide +kernel
theorem d_PN_addNear_24 : decode b_PN_addNear 24 = .ok (.getfield 33, 3) := by decide +kernel
theorem d_PN_addNear_27 : decode b_PN_addNear 27 = .ok (.iconst 1, 1) := by decide +kernel
theorem d_PN_addNear_28 : decode b_PN_addNear 28 = .ok (.iadd, 1) := by decide +kernel
theorem d_PN_addNear_29 : decode b_PN_addNear 29 = .ok (.putfield 33, 3) := by decide +kernel
theorem d_PN_addNear_32 : decode b_PN_addNear 32 = .ok (.return_, 1) := by decide +kernel
theorem d_PN_leastNumber_0 : decode b_PN_leastNumber 0 = .ok (.iconst 0, 1) := by decide +kernel
theorem d_PN_leastNumber_1 : decode b_PN_leastNumber 1 = .ok (.istore_n 3, 1) := by decide +kernel
theorem d_PN_leastNumber_2 : decode b_PN_leastNumber 2 = .ok (.iload_n 3, 1) := by decide +kernel
theorem d_PN_leastNumber_3 : decode b_PN_leastNumber 3 = .ok (.aload_n 0, 1) := by decide +kernel
theorem d_PN_leastNumber_4 : decode b_PN_leastNumber 4 = .ok (.getfield 33, 3) := by decide +kernel
theorem d_PN_leastNumber_7 : decode b_PN_leastNumber 7 = .ok (.if_icmp .ge 25, 3) := by decide +kernel
theorem d_PN_leastNumber_10 : decode b_PN_leastNumber 10 = .ok (.iload_n 3, 1) := by decide +kernel
theorem d_PN_leastNumber_11 : decode b_PN_leastNumber 11 = .ok (.aload_n 0, 1) := by decide +kernel
theorem d_PN_leastNumber_12 : decode b_PN_leastNumber 12 = .ok (.getfield 29, 3) := by decide +kernel
theorem d_PN_leastNumber_15 : decode b_PN_leastNumber 15 = .ok (.arraylength, 1) := by decide +kernel
theorem d_PN_leastNumber_16 : decode b_PN_leastNumber 16 = .ok (.if_icmp .ge 16, 3) := by decide +kernel
theorem d_PN_leastNumber_19 : decode b_PN_leastNumber 19 = .ok (.aload_n 0, 1) := by decide +kernel
theorem d_PN_leastNumber_20 : decode b_PN_leastNumber 20 = .ok (.getfield 29, 3) := by decide +kernel
theorem d_PN_leastNumber_23 : decode b_PN_leastNumber 23 = .ok (.iload_n 3, 1) := by decide +kernel
theorem d_PN_leastNumber_24 : decode b_PN_leastNumber 24 = .ok (.iconst 0, 1) := by decide +kernel
theorem d_PN_leastNumber_25 : decode b_PN_leastNumber 25 = .ok (.bastore, 1) := by decide +kernel
theorem d_PN_leastNumber_26 : decode b_PN_leastNumber 26 = .ok (.iinc 3 1, 3) := by decide +kernel
theorem d_PN_leastNumber_29 : decode b_PN_leastNumber 29 = .ok (.goto (-27), 3) := by decide +kernel
theorem d_PN_leastNumber_32 : decode b_PN_leastNumber 32 = .ok (.iconst 0, 1) := by decide +kernel
theorem d_PN_leastNumber_33 : decode b_PN_leastNumber 33 = .ok (.istore_n 3, 1) := by decide +kernel
theorem d_PN_leastNumber_34 : decode b_PN_leastNumber 34 = .ok (.iload_n 3, 1) := by decide +kernel
theorem d_PN_leastNumber_35 : decode b_PN_leastNumber 35 = .ok (.aload_n 0, 1) := by decide +kernel
theorem d_PN_leastNumber_36 : decode b_PN_leastNumber 36 = .ok (.getfield 33, 3) := by decide +kernel
theorem d_PN_leastNumber_39 : decode b_PN_leastNumber 39 = .ok (.if_icmp .ge 62, 3) := by decide +kernel
theorem d_PN_leastNumber_42 : decode b_PN_leastNumber 42 = .ok (.iload_n 3, 1) := by decide +kernel
theorem d_PN_leastNumber_43 : decode b_PN_leastNumber 43 = .ok (.aload_n 0, 1) := by decide +kernel
theorem d_PN_leastNumber_44 : decode b_PN_leastNumber 44 = .ok (.getfield 25, 3) := by decide +kernel
theorem d_PN_leastNumber_47 : decode b_PN_leastNumber 47 = .ok (.arraylength, 1) := by decide +kernel
theorem d_PN_leastNumber_48 : decode b_PN_leastNumber 48 = .ok (.if_icmp .ge 53, 3) := by decide +kernel
theorem d_PN_leastNumber_51 : decode b_PN_leastNumber 51 = .ok (.lload_n 1, 1) := by decide +kernel
theorem d_PN_leastNumber_52 : decode b_PN_leastNumber 52 = .ok (.aload_n 0, 1) := by decide +kernel
theorem d_PN_leastNumber_53 : decode b_PN_leastNumber 53 = .ok (.getfield 25, 3) := by decide +kernel
theorem d_PN_leastNumber_56 : decode b_PN_leastNumber 56 = .ok (.iload_n 3, 1) := by decide +kernel
theorem d_PN_leastNumber_57 : decode b_PN_leastNumber 57 = .ok (.laload, 1) := by decide +kernel
theorem d_PN_leastNumber_58 : decode b_PN_leastNumber 58 = .ok (.invokestatic 146, 3) := by decide +kernel
theorem d_PN_leastNumber_61 : decode b_PN_leastNumber 61 = .ok (.istore 4, 2) := by decide +kernel
theorem d_PN_leastNumber_63 : decode b_PN_leastNumber 63 = .ok (.iload 4, 2) := by decide +kernel
theorem d_PN_leastNumber_65 : decode b_PN_leastNumber 65 = .ok (.ifCond .le 30, 3) := by decide +kernel
theorem d_PN_leastNumber_68 : decode b_PN_leastNumber 68 = .ok (.iload 4, 2) := by decide +kernel
theorem d_PN_leastNumber_70 : decode b_PN_leastNumber 70 = .ok (.aload_n 0, 1) := by decide +kernel
theorem d_PN_leastNumber_71 : decode b_PN_leastNumber 71 = .ok (.getfield 33, 3) := by decide +kernel
theorem d_PN_leastNumber_74 : decode b_PN_leastNumber 74 = .ok (.if_icmp .ge 21, 3) := by decide +kernel
theorem d_PN_leastNumber_77 : decode b_PN_leastNumber 77 = .ok (.iload 4, 2) := by decide +kernel
theorem d_PN_leastNumber_79 : decode b_PN_leastNumber 79 = .ok (.aload_n 0, 1) := by decide +kernel
theorem d_PN_leastNumber_80 : decode b_PN_leastNumber 80 = .ok (.getfield 29, 3) := by decide +kernel
theorem d_PN_leastNumber_83 : decode b_PN_leastNumber 83 = .ok (.arraylength, 1) := by decide +kernel
theorem d_PN_leastNumber_84 : decode b_PN_leastNumber 84 = .ok (.if_icmp .ge 11, 3) := by decide +kernel
theorem d_PN_leastNumber_87 : decode b_PN_leastNumber 87 = .ok (.aload_n 0, 1) := by decide +kernel
theorem d_PN_leastNumber_88 : decode b_PN_leastNumber 88 = .ok (.getfield 29, 3) := by decide +kernel
theorem d_PN_leastNumber_91 : decode b_PN_leastNumber 91 = .ok (.iload 4, 2) := by decide +kernel
theorem d_PN_leastNumber_93 : decode b_PN_leastNumber 93 = .ok (.iconst 1, 1) := by decide +kernel
theorem d_PN_leastNumber_94 : decode b_PN_leastNumber 94 = .ok (.bastore, 1) := by decide +kernel
theorem d_PN_leastNumber_95 : decode b_PN_leastNumber 95 = .ok (.iinc 3 1, 3) := by decide +kernel
theorem d_PN_leastNumber_98 : decode b_PN_leastNumber 98 = .ok (.goto (-64), 3) := by decide +kernel
theorem d_PN_leastNumber_101 : decode b_PN_leastNumber 101 = .ok (.iconst 1, 1) := by decide +kernel
theorem d_PN_leastNumber_102 : decode b_PN_leastNumber 102 = .ok (.istore_n 3, 1) := by decide +kernel
theorem d_PN_leastNumber_103 : decode b_PN_leastNumber 103 = .ok (.iload_n 3, 1) := by decide +kernel
theorem d_PN_leastNumber_104 : decode b_PN_leastNumber 104 = .ok (.aload_n 0, 1) := by decide +kernel
theorem d_PN_leastNumber_105 : decode b_PN_leastNumber 105 = .ok (.getfield 33, 3) := by decide +kernel
theorem d_PN_leastNumber_108 : decode b_PN_leastNumber 108 = .ok (.if_icmp .ge 29, 3) := by decide +kernel
theorem d_PN_leastNumber_111 : decode b_PN_leastNumber 111 = .ok (.iload_n 3, 1) := by decide +kernel
theorem d_PN_leastNumber_112 : decode b_PN_leastNumber 112 = .ok (.aload_n 0, 1) := by decide +kernel
theorem d_PN_leastNumber_113 : decode b_PN_leastNumber 113 = .ok (.getfield 29, 3) := by decide +kernel
theorem d_PN_leastNumber_116 : decode b_PN_leastNumber 116 = .ok (.arraylength, 1) := by decide +kernel
theorem d_PN_leastNumber_117 : decode b_PN_leastNumber 117 = .ok (.if_icmp .ge 20, 3) := by decide +kernel
theorem d_PN_leastNumber_120 : decode b_PN_leastNumber 120 = .ok (.aload_n 0, 1) := by decide +kernel
theorem d_PN_leastNumber_121 : decode b_PN_leastNumber 121 = .ok (.getfield 29, 3) := by decide +kernel
theorem d_PN_leastNumber_124 : decode b_PN_leastNumber 124 = .ok (.iload_n 3, 1) := by decide +kernel
theorem d_PN_leastNumber_125 : decode b_PN_leastNumber 125 = .ok (.baload, 1) := by decide +kernel
theorem d_PN_leastNumber_126 : decode b_PN_leastNumber 126 = .ok (.ifCond .ne 5, 3) := by decide +kernel
theorem d_PN_leastNumber_129 : decode b_PN_leastNumber 129 = .ok (.iload_n 3, 1) := by decide +kernel
theorem d_PN_leastNumber_130 : decode b_PN_leastNumber 130 = .ok (.ireturn, 1) := by decide +kernel
theorem d_PN_leastNumber_131 : decode b_PN_leastNumber 131 = .ok (.iinc 3 1, 3) := by decide +kernel
theorem d_PN_leastNumber_134 : decode b_PN_leastNumber 134 = .ok (.goto (-31), 3) := by decide +kernel
theorem d_PN_leastNumber_137 : decode b_PN_leastNumber 137 = .ok (.iconst 1, 1) := by decide +kernel
theorem d_PN_leastNumber_138 : decode b_PN_leastNumber 138 = .ok (.aload_n 0, 1) := by decide +kernel
theorem d_PN_leastNumber_139 : decode b_PN_leastNumber 139 = .ok (.getfield 33, 3) := by decide +kernel
theorem d_PN_leastNumber_142 : decode b_PN_leastNumber 142 = .ok (.invokestatic 150, 3) := by decide +kernel
theorem d_PN_leastNumber_145 : decode b_PN_leastNumber 145 = .ok (.ireturn, 1) := by decide +kernel
theorem d_PN_makeRoom_0 : decode b_PN_makeRoom 0 = .ok (.iload_n 1, 1) := by decide +kernel
theorem d_PN_makeRoom_1 : decode b_PN_makeRoom 1 = .ok (.aload_n 0, 1) := by decide +kernel
theorem d_PN_makeRoom_2 : decode b_PN_makeRoom 2 = .ok (.getfield 18, 3) := by decide +kernel
theorem d_PN_makeRoom_5 : decode b_PN_makeRoom 5 = .ok (.arraylength, 1) := by decide +kernel
theorem d_PN_makeRoom_6 : decode b_PN_makeRoom 6 = .ok (.if_icmp .le 41, 3) := by decide +kernel
theorem d_PN_makeRoom_9 : decode b_PN_makeRoom 9 = .ok (.aload_n 0, 1) := by decide +kernel
theorem d_PN_makeRoom_10 : decode b_PN_makeRoom 10 = .ok (.getfield 18, 3) := by decide +kernel
theorem d_PN_makeRoom_13 : decode b_PN_makeRoom 13 = .ok (.arraylength, 1) := by decide +kernel
theorem d_PN_makeRoom_14 : decode b_PN_makeRoom 14 = .ok (.iload_n 1, 1) := by decide +kernel
theorem d_PN_makeRoom_15 : decode b_PN_makeRoom 15 = .ok (.invokestatic 156, 3) := by decide +kernel
theorem d_PN_makeRoom_18 : decode b_PN_makeRoom 18 = .ok (.istore_n 2, 1) := by decide +kernel
theorem d_PN_makeRoom_19 : decode b_PN_makeRoom 19 = .ok (.aload_n 0, 1) := by decide +kernel
theorem d_PN_makeRoom_20 : decode b_PN_makeRoom 20 = .ok (.iload_n 2, 1) := by decide +kernel
theorem d_PN_makeRoom_21 : decode b_PN_makeRoom 21 = .ok (.newarray .int, 2) := by decide +kernel
theorem d_PN_makeRoom_23 : decode b_PN_makeRoom 23 = .ok (.putfield 18, 3) := by decide +kernel
theorem d_PN_makeRoom_26 : decode b_PN_makeRoom 26 = .ok (.aload_n 0, 1) := by decide +kernel
theorem d_PN_makeRoom_27 : decode b_PN_makeRoom 27 = .ok (.iload_n 2, 1) := by decide +kernel
theorem d_PN_makeRoom_28 : decode b_PN_makeRoom 28 = .ok (.newarray .int, 2) := by decide +kernel
theorem d_PN_makeRoom_30 : decode b_PN_makeRoom 30 = .ok (.putfield 22, 3) := by decide +kernel
theorem d_PN_makeRoom_33 : decode b_PN_makeRoom 33 = .ok (.aload_n 0, 1) := by decide +kernel
theorem d_PN_makeRoom_34 : decode b_PN_makeRoom 34 = .ok (.iload_n 2, 1) := by decide +kernel
theorem d_PN_makeRoom_35 : decode b_PN_makeRoom 35 = .ok (.newarray .long, 2) := by decide +kernel
theorem d_PN_makeRoom_37 : decode b_PN_makeRoom 37 = .ok (.putfield 25, 3) := by decide +kernel
theorem d_PN_makeRoom_40 : decode b_PN_makeRoom 40 = .ok (.aload_n 0, 1) := by decide +kernel
theorem d_PN_makeRoom_41 : decode b_PN_makeRoom 41 = .ok (.iload_n 2, 1) := by decide +kernel
theorem d_PN_makeRoom_42 : decode b_PN_makeRoom 42 = .ok (.newarray .boolean, 2) := by decide +kernel
theorem d_PN_makeRoom_44 : decode b_PN_makeRoom 44 = .ok (.putfield 29, 3) := by decide +kernel
theorem d_PN_makeRoom_47 : decode b_PN_makeRoom 47 = .ok (.return_, 1) := by decide +kernel
