theorem d_NS_countUses_71 : decode b_NS_countUses 71 = .ok (.i2l, 1) := by decide +kernel
theorem d_NS_countUses_72 : decode b_NS_countUses 72 = .ok (.lcmp, 1) := by decide +kernel
theorem d_NS_countUses_73 : decode b_NS_countUses 73 = .ok (.ifCond .ne 6, 3) := by decide +kernel
theorem d_NS_countUses_76 : decode b_NS_countUses 76 = .ok (.iinc 4 1, 3) := by decide +kernel
theorem d_NS_countUses_79 : decode b_NS_countUses 79 = .ok (.iinc 5 1, 3) := by decide +kernel
theorem d_NS_countUses_82 : decode b_NS_countUses 82 = .ok (.goto (-49), 3) := by decide +kernel
theorem d_NS_countUses_85 : decode b_NS_countUses 85 = .ok (.iload 4, 2) := by decide +kernel
theorem d_NS_countUses_87 : decode b_NS_countUses 87 = .ok (.ireturn, 1) := by decide +kernel
theorem d_NS_copy_0 : decode b_NS_copy 0 = .ok (.iload_n 1, 1) := by decide +kernel
theorem d_NS_copy_1 : decode b_NS_copy 1 = .ok (.istore_n 3, 1) := by decide +kernel
theorem d_NS_copy_2 : decode b_NS_copy 2 = .ok (.iload_n 3, 1) := by decide +kernel
theorem d_NS_copy_3 : decode b_NS_copy 3 = .ok (.iload_n 2, 1) := by decide +kernel
theorem d_NS_copy_4 : decode b_NS_copy 4 = .ok (.if_icmp .ge 32, 3) := by decide +kernel
theorem d_NS_copy_7 : decode b_NS_copy 7 = .ok (.aload_n 0, 1) := by decide +kernel
theorem d_NS_copy_8 : decode b_NS_copy 8 = .ok (.getfield 46, 3) := by decide +kernel
theorem d_NS_copy_11 : decode b_NS_copy 11 = .ok (.aload_n 0, 1) := by decide +kernel
theorem d_NS_copy_12 : decode b_NS_copy 12 = .ok (.getfield 43, 3) := by decide +kernel
theorem d_NS_copy_15 : decode b_NS_copy 15 = .ok (.iload_n 3, 1) := by decide +kernel
theorem d_NS_copy_16 : decode b_NS_copy 16 = .ok (.invokevirtual 97, 3) := by decide +kernel
theorem d_NS_copy_19 : decode b_NS_copy 19 = .ok (.aload_n 0, 1) := by decide +kernel
theorem d_NS_copy_20 : decode b_NS_copy 20 = .ok (.getfield 43, 3) := by decide +kernel
theorem d_NS_copy_23 : decode b_NS_copy 23 = .ok (.iload_n 3, 1) := by decide +kernel
theorem d_NS_copy_24 : decode b_NS_copy 24 = .ok (.invokevirtual 101, 3) := by decide +kernel
theorem d_NS_copy_27 : decode b_NS_copy 27 = .ok (.invokevirtual 67, 3) := by decide +kernel
theorem d_NS_copy_30 : decode b_NS_copy 30 = .ok (.iinc 3 1, 3) := by decide +kernel
theorem d_NS_copy_33 : decode b_NS_copy 33 = .ok (.goto (-31), 3) := by decide +kernel
theorem d_NS_copy_36 : decode b_NS_copy 36 = .ok (.return_, 1) := by decide +kernel
theorem d_NS_copyLastPart_0 : decode b_NS_copyLastPart 0 = .ok (.aload_n 0, 1) := by decide +kernel
theorem d_NS_copyLastPart_1 : decode b_NS_copyLastPart 1 = .ok (.getfield 32, 3) := by decide +kernel
theorem d_NS_copyLastPart_4 : decode b_NS_copyLastPart 4 = .ok (.iload_n 1, 1) := by decide +kernel
theorem d_NS_copyLastPart_5 : decode b_NS_copyLastPart 5 = .ok (.invokevirtual 159, 3) := by decide +kernel
theorem d_NS_copyLastPart_8 : decode b_NS_copyLastPart 8 = .ok (.iconst 1, 1) := by decide +kernel
theorem d_NS_copyLastPart_9 : decode b_NS_copyLastPart 9 = .ok (.iadd, 1) := by decide +kernel
theorem d_NS_copyLastPart_10 : decode b_NS_copyLastPart 10 = .ok (.istore_n 3, 1) := by decide +kernel
theorem d_NS_copyLastPart_11 : decode b_NS_copyLastPart 11 = .ok (.aload_n 0, 1) := by decide +kernel
theorem d_NS_copyLastPart_12 : decode b_NS_copyLastPart 12 = .ok (.getfield 43, 3) := by decide +kernel
theorem d_NS_copyLastPart_15 : decode b_NS_copyLastPart 15 = .ok (.iload_n 1, 1) := by decide +kernel
theorem d_NS_copyLastPart_16 : decode b_NS_copyLastPart 16 = .ok (.invokevirtual 120, 3) := by decide +kernel
theorem d_NS_copyLastPart_19 : decode b_NS_copyLastPart 19 = .ok (.istore 4, 2) := by decide +kernel
theorem d_NS_copyLastPart_21 : decode b_NS_copyLastPart 21 = .ok (.aload_n 0, 1) := by decide +kernel
theorem d_NS_copyLastPart_22 : decode b_NS_copyLastPart 22 = .ok (.getfield 43, 3) := by decide +kernel
theorem d_NS_copyLastPart_25 : decode b_NS_copyLastPart 25 = .ok (.iload_n 1, 1) := by decide +kernel
theorem d_NS_copyLastPart_26 : decode b_NS_copyLastPart 26 = .ok (.invokevirtual 117, 3) := by decide +kernel
theorem d_NS_copyLastPart_29 : decode b_NS_copyLastPart 29 = .ok (.istore 5, 2) := by decide +kernel
theorem d_NS_copyLastPart_31 : decode b_NS_copyLastPart 31 = .ok (.iload 5, 2) := by decide +kernel
theorem d_NS_copyLastPart_33 : decode b_NS_copyLastPart 33 = .ok (.iload 4, 2) := by decide +kernel
theorem d_NS_copyLastPart_35 : decode b_NS_copyLastPart 35 = .ok (.if_icmp .ge 103, 3) := by decide +kernel
theorem d_NS_copyLastPart_38 : decode b_NS_copyLastPart 38 = .ok (.aload_n 0, 1) := by decide +kernel
theorem d_NS_copyLastPart_39 : decode b_NS_copyLastPart 39 = .ok (.getfield 43, 3) := by decide +kernel
theorem d_NS_copyLastPart_42 : decode b_NS_copyLastPart 42 = .ok (.iload 5, 2) := by decide +kernel
theorem d_NS_copyLastPart_44 : decode b_NS_copyLastPart 44 = .ok (.invokevirtual 97, 3) := by decide +kernel
theorem d_NS_copyLastPart_47 : decode b_NS_copyLastPart 47 = .ok (.istore 6, 2) := by decide +kernel
theorem d_NS_copyLastPart_49 : decode b_NS_copyLastPart 49 = .ok (.aload_n 0, 1) := by decide +kernel
theorem d_NS_copyLastPart_50 : decode b_NS_copyLastPart 50 = .ok (.getfield 43, 3) := by decide +kernel
theorem d_NS_copyLastPart_53 : decode b_NS_copyLastPart 53 = .ok (.iload 5, 2) := by decide +kernel
theorem d_NS_copyLastPart_55 : decode b_NS_copyLastPart 55 = .ok (.invokevirtual 101, 3) := by decide +kernel
theorem d_NS_copyLastPart_58 : decode b_NS_copyLastPart 58 = .ok (.lstore 7, 2) := by decide +kernel
theorem d_NS_copyLastPart_60 : decode b_NS_copyLastPart 60 = .ok (.aload_n 0, 1) := by decide +kernel
theorem d_NS_copyLastPart_61 : decode b_NS_copyLastPart 61 = .ok (.getfield 32, 3) := by decide +kernel
theorem d_NS_copyLastPart_64 : decode b_NS_copyLastPart 64 = .ok (.iload 5, 2) := by decide +kernel
theorem d_NS_copyLastPart_66 : decode b_NS_copyLastPart 66 = .ok (.invokevirtual 159, 3) := by decide +kernel
theorem d_NS_copyLastPart_69 : decode b_NS_copyLastPart 69 = .ok (.iload_n 3, 1) := by decide +kernel
theorem d_NS_copyLastPart_70 : decode b_NS_copyLastPart 70 = .ok (.isub, 1) := by decide +kernel
theorem d_NS_copyLastPart_71 : decode b_NS_copyLastPart 71 = .ok (.istore 9, 2) := by decide +kernel
theorem d_NS_copyLastPart_73 : decode b_NS_copyLastPart 73 = .ok (.iload 6, 2) := by decide +kernel
theorem d_NS_copyLastPart_75 : decode b_NS_copyLastPart 75 = .ok (.ifCond .ne 12, 3) := by decide +kernel
theorem d_NS_copyLastPart_78 : decode b_NS_copyLastPart 78 = .ok (.lload 7, 2) := by decide +kernel
theorem d_NS_copyLastPart_80 : decode b_NS_copyLastPart 80 = .ok (.iload 9, 2) := by decide +kernel
theorem d_NS_copyLastPart_82 : decode b_NS_copyLastPart 82 = .ok (.i2l, 1) := by decide +kernel
theorem d_NS_copyLastPart_83 : decode b_NS_copyLastPart 83 = .ok (.lcmp, 1) := by decide +kernel
theorem d_NS_copyLastPart_84 : decode b_NS_copyLastPart 84 = .ok (.ifCond .ge 17, 3) := by decide +kernel
theorem d_NS_copyLastPart_87 : decode b_NS_copyLastPart 87 = .ok (.aload_n 0, 1) := by decide +kernel
theorem d_NS_copyLastPart_88 : decode b_NS_copyLastPart 88 = .ok (.getfield 46, 3) := by decide +kernel
theorem d_NS_copyLastPart_91 : decode b_NS_copyLastPart 91 = .ok (.iload 6, 2) := by decide +kernel
theorem d_NS_copyLastPart_93 : decode b_NS_copyLastPart 93 = .ok (.lload 7, 2) := by decide +kernel
theorem d_NS_copyLastPart_95 : decode b_NS_copyLastPart 95 = .ok (.invokevirtual 67, 3) := by decide +kernel
theorem d_NS_copyLastPart_98 : decode b_NS_copyLastPart 98 = .ok (.goto 34, 3) := by decide +kernel
theorem d_NS_copyLastPart_101 : decode b_NS_copyLastPart 101 = .ok (.lload 7, 2) := by decide +kernel
theorem d_NS_copyLastPart_103 : decode b_NS_copyLastPart 103 = .ok (.iload 9, 2) := by decide +kernel
theorem d_NS_copyLastPart_105 : decode b_NS_copyLastPart 105 = .ok (.i2l, 1) := by decide +kernel
theorem d_NS_copyLastPart_106 : decode b_NS_copyLastPart 106 = .ok (.lcmp, 1) := by decide +kernel
theorem d_NS_copyLastPart_107 : decode b_NS_copyLastPart 107 = .ok (.ifCond .ne 13, 3) := by decide +kernel
theorem d_NS_copyLastPart_110 : decode b_NS_copyLastPart 110 = .ok (.aload_n 0, 1) := by decide +kernel
theorem d_NS_copyLastPart_111 : decode b_NS_copyLastPart 111 = .ok (.iload_n 2, 1) := by decide +kernel
theorem d_NS_copyLastPart_112 : decode b_NS_copyLastPart 112 = .ok (.iload 9, 2) := by decide +kernel
theorem d_NS_copyLastPart_114 : decode b_NS_copyLastPart 114 = .ok (.invokevirtual 162, 3) := by decide +kernel
theorem d_NS_copyLastPart_117 : decode b_NS_copyLastPart 117 = .ok (.goto 15, 3) := by decide +kernel
theorem d_NS_copyLastPart_120 : decode b_NS_copyLastPart 120 = .ok (.aload_n 0, 1) := by decide +kernel
theorem d_NS_copyLastPart_121 : decode b_NS_copyLastPart 121 = .ok (.getfield 46, 3) := by decide +kernel
theorem d_NS_copyLastPart_124 : decode b_NS_copyLastPart 124 = .ok (.iconst 0, 1) := by decide +kernel
theorem d_NS_copyLastPart_125 : decode b_NS_copyLastPart 125 = .ok (.lload 7, 2) := by decide +kernel
theorem d_NS_copyLastPart_127 : decode b_NS_copyLastPart 127 = .ok (.lconst 1, 1) := by decide +kernel
theorem d_NS_copyLastPart_128 : decode b_NS_copyLastPart 128 = .ok (.lsub, 1) := by decide +kernel
theorem d_NS_copyLastPart_129 : decode b_NS_copyLastPart 129 = .ok (.invokevirtual 67, 3) := by decide +kernel
theorem d_NS_copyLastPart_132 : decode b_NS_copyLastPart 132 = .ok (.iinc 5 1, 3) := by decide +kernel
theorem d_NS_copyLastPart_135 : decode b_NS_copyLastPart 135 = .ok (.goto (-104), 3) := by decide +kernel
theorem d_NS_copyLastPart_138 : decode b_NS_copyLastPart 138 = .ok (.return_, 1) := by decide +kernel
theorem d_NS_copyDeeper_0 : decode b_NS_copyDeeper 0 = .ok (.aload_n 0, 1) := by decide +kernel
theorem d_NS_copyDeeper_1 : decode b_NS_copyDeeper 1 = .ok (.getfield 32, 3) := by decide +kernel
theorem d_NS_copyDeeper_4 : decode b_NS_copyDeeper 4 = .ok (.iload_n 1, 1) := by decide +kernel
theorem d_NS_copyDeeper_5 : decode b_NS_copyDeeper 5 = .ok (.invokevirtual 159, 3) := by decide +kernel
theorem d_NS_copyDeeper_8 : decode b_NS_copyDeeper 8 = .ok (.istore_n 3, 1) := by decide +kernel
theorem d_NS_copyDeeper_9 : decode b_NS_copyDeeper 9 = .ok (.aload_n 0, 1) := by decide +kernel
theorem d_NS_copyDeeper_10 : decode b_NS_copyDeeper 10 = .ok (.getfield 43, 3) := by decide +kernel
theorem d_NS_copyDeeper_13 : decode b_NS_copyDeeper 13 = .ok (.iload_n 1, 1) := by decide +kernel
theorem d_NS_copyDeeper_14 : decode b_NS_copyDeeper 14 = .ok (.invokevirtual 120, 3) := by decide +kernel
theorem d_NS_copyDeeper_17 : decode b_NS_copyDeeper 17 = .ok (.istore 4, 2) := by decide +kernel
theorem d_NS_copyDeeper_19 : decode b_NS_copyDeeper 19 = .ok (.iload_n 1, 1) := by decide +kernel
theorem d_NS_copyDeeper_20 : decode b_NS_copyDeeper 20 = .ok (.istore 5, 2) := by decide +kernel
theorem d_NS_copyDeeper_22 : decode b_NS_copyDeeper 22 = .ok (.iload 5, 2) := by decide +kernel
theorem d_NS_copyDeeper_24 : decode b_NS_copyDeeper 24 = .ok (.iload 4, 2) := by decide +kernel
theorem d_NS_copyDeeper_26 : decode b_NS_copyDeeper 26 = .ok (.if_icmp .ge 88, 3) := by decide +kernel
theorem d_NS_copyDeeper_29 : decode b_NS_copyDeeper 29 = .ok (.aload_n 0, 1) := by decide +kernel
theorem d_NS_copyDeeper_30 : decode b_NS_copyDeeper 30 = .ok (.getfield 43, 3) := by decide +kernel
theorem d_NS_copyDeeper_33 : decode b_NS_copyDeeper 33 = .ok (.iload 5, 2) := by decide +kernel
theorem d_NS_copyDeeper_35 : decode b_NS_copyDeeper 35 = .ok (.invokevirtual 101, 3) := by decide +kernel
theorem d_NS_copyDeeper_38 : decode b_NS_copyDeeper 38 = .ok (.lstore 6, 2) := by decide +kernel
theorem d_NS_copyDeeper_40 : decode b_NS_copyDeeper 40 = .ok (.aload_n 0, 1) := by decide +kernel
theorem d_NS_copyDeeper_41 : decode b_NS_copyDeeper 41 = .ok (.getfield 43, 3) := by decide +kernel
theorem d_NS_copyDeeper_44 : decode b_NS_copyDeeper 44 = .ok (.iload 5, 2) := by decide +kernel
theorem d_NS_copyDeeper_46 : decode b_NS_copyDeeper 46 = .ok (.invokevirtual 97, 3) := by decide +kernel
theorem d_NS_copyDeeper_49 : decode b_NS_copyDeeper 49 = .ok (.ifCond .ne 25, 3) := by decide +kernel
theorem d_NS_copyDeeper_52 : decode b_NS_copyDeeper 52 = .ok (.lload 6, 2) := by decide +kernel
theorem d_NS_copyDeeper_54 : decode b_NS_copyDeeper 54 = .ok (.aload_n 0, 1) := by decide +kernel
theorem d_NS_copyDeeper_55 : decode b_NS_copyDeeper 55 = .ok (.getfield 32, 3) := by decide +kernel
theorem d_NS_copyDeeper_58 : decode b_NS_copyDeeper 58 = .ok (.iload 5, 2) := by decide +kernel
theorem d_NS_copyDeeper_60 : decode b_NS_copyDeeper 60 = .ok (.invokevirtual 159, 3) := by decide +kernel
theorem d_NS_copyDeeper_63 : decode b_NS_copyDeeper 63 = .ok (.iload_n 3, 1) := by decide +kernel
theorem d_NS_copyDeeper_64 : decode b_NS_copyDeeper 64 = .ok (.isub, 1) := by decide +kernel
theorem d_NS_copyDeeper_65 : decode b_NS_copyDeeper 65 = .ok (.i2l, 1) := by decide +kernel
theorem d_NS_copyDeeper_66 : decode b_NS_copyDeeper 66 = .ok (.lcmp, 1) := by decide +kernel
theorem d_NS_copyDeeper_67 : decode b_NS_copyDeeper 67 = .ok (.ifCond .lt 7, 3) := by decide +kernel
theorem d_NS_copyDeeper_70 : decode b_NS_copyDeeper 70 = .ok (.iconst 1, 1) := by decide +kernel
theorem d_NS_copyDeeper_71 : decode b_NS_copyDeeper 71 = .ok (.goto 4, 3) := by decide +kernel
theorem d_NS_copyDeeper_74 : decode b_NS_copyDeeper 74 = .ok (.iconst 0, 1) := by decide +kernel
theorem d_NS_copyDeeper_75 : decode b_NS_copyDeeper 75 = .ok (.istore 8, 2) := by decide +kernel
theorem d_NS_copyDeeper_77 : decode b_NS_copyDeeper 77 = .ok (.aload_n 0, 1) := by decide +kernel
theorem d_NS_copyDeeper_78 : decode b_NS_copyDeeper 78 = .ok (.getfield 46, 3) := by decide +kernel
theorem d_NS_copyDeeper_81 : decode b_NS_copyDeeper 81 = .ok (.aload_n 0, 1) := by decide +kernel
theorem d_NS_copyDeeper_82 : decode b_NS_copyDeeper 82 = .ok (.getfield 43, 3) := by decide +kernel
theorem d_NS_copyDeeper_85 : decode b_NS_copyDeeper 85 = .ok (.iload 5, 2) := by decide +kernel
theorem d_NS_copyDeeper_87 : decode b_NS_copyDeeper 87 = .ok (.invokevirtual 97, 3) := by decide +kernel
theorem d_NS_copyDeeper_90 : decode b_NS_copyDeeper 90 = .ok (.iload 8, 2) := by decide +kernel
theorem d_NS_copyDeeper_92 : decode b_NS_copyDeeper 92 = .ok (.ifCond .eq 11, 3) := by decide +kernel
theorem d_NS_copyDeeper_95 : decode b_NS_copyDeeper 95 = .ok (.lload 6, 2) := by decide +kernel
theorem d_NS_copyDeeper_97 : decode b_NS_copyDeeper 97 = .ok (.iload_n 2, 1) := by decide +kernel
theorem d_NS_copyDeeper_98 : decode b_NS_copyDeeper 98 = .ok (.i2l, 1) := by decide +kernel
theorem d_NS_copyDeeper_99 : decode b_NS_copyDeeper 99 = .ok (.ladd, 1) := by decide +kernel
theorem d_NS_copyDeeper_100 : decode b_NS_copyDeeper 100 = .ok (.goto 5, 3) := by decide +kernel
theorem d_NS_copyDeeper_103 : decode b_NS_copyDeeper 103 = .ok (.lload 6, 2) := by decide +kernel
theorem d_NS_copyDeeper_105 : decode b_NS_copyDeeper 105 = .ok (.invokevirtual 67, 3) := by decide +kernel
theorem d_NS_copyDeeper_108 : decode b_NS_copyDeeper 108 = .ok (.iinc 5 1, 3) := by decide +kernel
theorem d_NS_copyDeeper_111 : decode b_NS_copyDeeper 111 = .ok (.goto (-89), 3) := by decide +kernel
theorem d_NS_copyDeeper_114 : decode b_NS_copyDeeper 114 = .ok (.return_, 1) := by decide +kernel
