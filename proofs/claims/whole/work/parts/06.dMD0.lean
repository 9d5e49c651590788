theorem d_MD_init_0 : decode b_MD_init 0 = .ok (.aload_n 0, 1) := by decide +kernel
theorem d_MD_init_1 : decode b_MD_init 1 = .ok (.invokespecial 1, 3) := by decide +kernel
theorem d_MD_init_4 : decode b_MD_init 4 = .ok (.aload_n 0, 1) := by decide +kernel
theorem d_MD_init_5 : decode b_MD_init 5 = .ok (.sipush 200, 3) := by decide +kernel
theorem d_MD_init_8 : decode b_MD_init 8 = .ok (.newarray .long, 2) := by decide +kernel
theorem d_MD_init_10 : decode b_MD_init 10 = .ok (.putfield 7, 3) := by decide +kernel
theorem d_MD_init_13 : decode b_MD_init 13 = .ok (.aload_n 0, 1) := by decide +kernel
theorem d_MD_init_14 : decode b_MD_init 14 = .ok (.sipush 3000, 3) := by decide +kernel
theorem d_MD_init_17 : decode b_MD_init 17 = .ok (.newarray .int, 2) := by decide +kernel
theorem d_MD_init_19 : decode b_MD_init 19 = .ok (.putfield 13, 3) := by decide +kernel
theorem d_MD_init_22 : decode b_MD_init 22 = .ok (.aload_n 0, 1) := by decide +kernel
theorem d_MD_init_23 : decode b_MD_init 23 = .ok (.sipush 3000, 3) := by decide +kernel
theorem d_MD_init_26 : decode b_MD_init 26 = .ok (.newarray .long, 2) := by decide +kernel
theorem d_MD_init_28 : decode b_MD_init 28 = .ok (.putfield 17, 3) := by decide +kernel
theorem d_MD_init_31 : decode b_MD_init 31 = .ok (.aload_n 0, 1) := by decide +kernel
theorem d_MD_init_32 : decode b_MD_init 32 = .ok (.sipush 3000, 3) := by decide +kernel
theorem d_MD_init_35 : decode b_MD_init 35 = .ok (.newarray .int, 2) := by decide +kernel
theorem d_MD_init_37 : decode b_MD_init 37 = .ok (.putfield 20, 3) := by decide +kernel
theorem d_MD_init_40 : decode b_MD_init 40 = .ok (.aload_n 0, 1) := by decide +kernel
theorem d_MD_init_41 : decode b_MD_init 41 = .ok (.sipush 3000, 3) := by decide +kernel
theorem d_MD_init_44 : decode b_MD_init 44 = .ok (.newarray .long, 2) := by decide +kernel
theorem d_MD_init_46 : decode b_MD_init 46 = .ok (.putfield 23, 3) := by decide +kernel
theorem d_MD_init_49 : decode b_MD_init 49 = .ok (.aload_n 0, 1) := by decide +kernel
theorem d_MD_init_50 : decode b_MD_init 50 = .ok (.sipush 3000, 3) := by decide +kernel
theorem d_MD_init_53 : decode b_MD_init 53 = .ok (.newarray .int, 2) := by decide +kernel
theorem d_MD_init_55 : decode b_MD_init 55 = .ok (.putfield 26, 3) := by decide +kernel
theorem d_MD_init_58 : decode b_MD_init 58 = .ok (.aload_n 0, 1) := by decide +kernel
theorem d_MD_init_59 : decode b_MD_init 59 = .ok (.sipush 3000, 3) := by decide +kernel
theorem d_MD_init_62 : decode b_MD_init 62 = .ok (.newarray .long, 2) := by decide +kernel
theorem d_MD_init_64 : decode b_MD_init 64 = .ok (.putfield 29, 3) := by decide +kernel
theorem d_MD_init_67 : decode b_MD_init 67 = .ok (.aload_n 0, 1) := by decide +kernel
theorem d_MD_init_68 : decode b_MD_init 68 = .ok (.sipush 3000, 3) := by decide +kernel
theorem d_MD_init_71 : decode b_MD_init 71 = .ok (.newarray .int, 2) := by decide +kernel
theorem d_MD_init_73 : decode b_MD_init 73 = .ok (.putfield 32, 3) := by decide +kernel
theorem d_MD_init_76 : decode b_MD_init 76 = .ok (.aload_n 0, 1) := by decide +kernel
theorem d_MD_init_77 : decode b_MD_init 77 = .ok (.sipush 3000, 3) := by decide +kernel
theorem d_MD_init_80 : decode b_MD_init 80 = .ok (.newarray .long, 2) := by decide +kernel
theorem d_MD_init_82 : decode b_MD_init 82 = .ok (.putfield 35, 3) := by decide +kernel
theorem d_MD_init_85 : decode b_MD_init 85 = .ok (.aload_n 0, 1) := by decide +kernel
theorem d_MD_init_86 : decode b_MD_init 86 = .ok (.sipush 3000, 3) := by decide +kernel
theorem d_MD_init_89 : decode b_MD_init 89 = .ok (.newarray .int, 2) := by decide +kernel
theorem d_MD_init_91 : decode b_MD_init 91 = .ok (.putfield 38, 3) := by decide +kernel
theorem d_MD_init_94 : decode b_MD_init 94 = .ok (.aload_n 0, 1) := by decide +kernel
theorem d_MD_init_95 : decode b_MD_init 95 = .ok (.sipush 3000, 3) := by decide +kernel
theorem d_MD_init_98 : decode b_MD_init 98 = .ok (.newarray .long, 2) := by decide +kernel
theorem d_MD_init_100 : decode b_MD_init 100 = .ok (.putfield 41, 3) := by decide +kernel
theorem d_MD_init_103 : decode b_MD_init 103 = .ok (.aload_n 0, 1) := by decide +kernel
theorem d_MD_init_104 : decode b_MD_init 104 = .ok (.sipush 3000, 3) := by decide +kernel
theorem d_MD_init_107 : decode b_MD_init 107 = .ok (.newarray .int, 2) := by decide +kernel
theorem d_MD_init_109 : decode b_MD_init 109 = .ok (.putfield 44, 3) := by decide +kernel
theorem d_MD_init_112 : decode b_MD_init 112 = .ok (.aload_n 0, 1) := by decide +kernel
theorem d_MD_init_113 : decode b_MD_init 113 = .ok (.sipush 3000, 3) := by decide +kernel
theorem d_MD_init_116 : decode b_MD_init 116 = .ok (.newarray .int, 2) := by decide +kernel
theorem d_MD_init_118 : decode b_MD_init 118 = .ok (.putfield 47, 3) := by decide +kernel
theorem d_MD_init_121 : decode b_MD_init 121 = .ok (.aload_n 0, 1) := by decide +kernel
theorem d_MD_init_122 : decode b_MD_init 122 = .ok (.sipush 3000, 3) := by decide +kernel
theorem d_MD_init_125 : decode b_MD_init 125 = .ok (.newarray .int, 2) := by decide +kernel
theorem d_MD_init_127 : decode b_MD_init 127 = .ok (.putfield 50, 3) := by decide +kernel
theorem d_MD_init_130 : decode b_MD_init 130 = .ok (.aload_n 0, 1) := by decide +kernel
theorem d_MD_init_131 : decode b_MD_init 131 = .ok (.iconst 0, 1) := by decide +kernel
theorem d_MD_init_132 : decode b_MD_init 132 = .ok (.putfield 53, 3) := by decide +kernel
theorem d_MD_init_135 : decode b_MD_init 135 = .ok (.return_, 1) := by decide +kernel
theorem d_MD_length_0 : decode b_MD_length 0 = .ok (.iconst 0, 1) := by decide +kernel
theorem d_MD_length_1 : decode b_MD_length 1 = .ok (.istore_n 2, 1) := by decide +kernel
theorem d_MD_length_2 : decode b_MD_length 2 = .ok (.lload_n 0, 1) := by decide +kernel
theorem d_MD_length_3 : decode b_MD_length 3 = .ok (.lstore_n 3, 1) := by decide +kernel
theorem d_MD_length_4 : decode b_MD_length 4 = .ok (.lload_n 3, 1) := by decide +kernel
theorem d_MD_length_5 : decode b_MD_length 5 = .ok (.lconst 0, 1) := by decide +kernel
theorem d_MD_length_6 : decode b_MD_length 6 = .ok (.lcmp, 1) := by decide +kernel
theorem d_MD_length_7 : decode b_MD_length 7 = .ok (.ifCond .eq 14, 3) := by decide +kernel
theorem d_MD_length_10 : decode b_MD_length 10 = .ok (.iinc 2 1, 3) := by decide +kernel
theorem d_MD_length_13 : decode b_MD_length 13 = .ok (.lload_n 3, 1) := by decide +kernel
theorem d_MD_length_14 : decode b_MD_length 14 = .ok (.bipush 8, 2) := by decide +kernel
theorem d_MD_length_16 : decode b_MD_length 16 = .ok (.lushr, 1) := by decide +kernel
theorem d_MD_length_17 : decode b_MD_length 17 = .ok (.lstore_n 3, 1) := by decide +kernel
theorem d_MD_length_18 : decode b_MD_length 18 = .ok (.goto (-14), 3) := by decide +kernel
theorem d_MD_length_21 : decode b_MD_length 21 = .ok (.iload_n 2, 1) := by decide +kernel
theorem d_MD_length_22 : decode b_MD_length 22 = .ok (.ireturn, 1) := by decide +kernel
theorem d_MD_isName_0 : decode b_MD_isName 0 = .ok (.lload_n 0, 1) := by decide +kernel
theorem d_MD_isName_1 : decode b_MD_isName 1 = .ok (.invokestatic 57, 3) := by decide +kernel
theorem d_MD_isName_4 : decode b_MD_isName 4 = .ok (.istore_n 3, 1) := by decide +kernel
theorem d_MD_isName_5 : decode b_MD_isName 5 = .ok (.iload_n 3, 1) := by decide +kernel
theorem d_MD_isName_6 : decode b_MD_isName 6 = .ok (.ifCond .le 12, 3) := by decide +kernel
theorem d_MD_isName_9 : decode b_MD_isName 9 = .ok (.iload_n 3, 1) := by decide +kernel
theorem d_MD_isName_10 : decode b_MD_isName 10 = .ok (.iload_n 2, 1) := by decide +kernel
theorem d_MD_isName_11 : decode b_MD_isName 11 = .ok (.if_icmp .gt 7, 3) := by decide +kernel
theorem d_MD_isName_14 : decode b_MD_isName 14 = .ok (.iconst 1, 1) := by decide +kernel
theorem d_MD_isName_15 : decode b_MD_isName 15 = .ok (.goto 4, 3) := by decide +kernel
theorem d_MD_isName_18 : decode b_MD_isName 18 = .ok (.iconst 0, 1) := by decide +kernel
theorem d_MD_isName_19 : decode b_MD_isName 19 = .ok (.istore 4, 2) := by decide +kernel
theorem d_MD_isName_21 : decode b_MD_isName 21 = .ok (.iconst 0, 1) := by decide +kernel
theorem d_MD_isName_22 : decode b_MD_isName 22 = .ok (.istore 5, 2) := by decide +kernel
theorem d_MD_isName_24 : decode b_MD_isName 24 = .ok (.iload 5, 2) := by decide +kernel
theorem d_MD_isName_26 : decode b_MD_isName 26 = .ok (.iload_n 3, 1) := by decide +kernel
theorem d_MD_isName_27 : decode b_MD_isName 27 = .ok (.if_icmp .ge 79, 3) := by decide +kernel
theorem d_MD_isName_30 : decode b_MD_isName 30 = .ok (.iload 4, 2) := by decide +kernel
theorem d_MD_isName_32 : decode b_MD_isName 32 = .ok (.ifCond .eq 74, 3) := by decide +kernel
theorem d_MD_isName_35 : decode b_MD_isName 35 = .ok (.lload_n 0, 1) := by decide +kernel
theorem d_MD_isName_36 : decode b_MD_isName 36 = .ok (.bipush 8, 2) := by decide +kernel
theorem d_MD_isName_38 : decode b_MD_isName 38 = .ok (.iload_n 3, 1) := by decide +kernel
theorem d_MD_isName_39 : decode b_MD_isName 39 = .ok (.iconst 1, 1) := by decide +kernel
theorem d_MD_isName_40 : decode b_MD_isName 40 = .ok (.isub, 1) := by decide +kernel
theorem d_MD_isName_41 : decode b_MD_isName 41 = .ok (.iload 5, 2) := by decide +kernel
theorem d_MD_isName_43 : decode b_MD_isName 43 = .ok (.isub, 1) := by decide +kernel
theorem d_MD_isName_44 : decode b_MD_isName 44 = .ok (.imul, 1) := by decide +kernel
theorem d_MD_isName_45 : decode b_MD_isName 45 = .ok (.lushr, 1) := by decide +kernel
theorem d_MD_isName_46 : decode b_MD_isName 46 = .ok (.ldc2_w 61, 3) := by decide +kernel
theorem d_MD_isName_49 : decode b_MD_isName 49 = .ok (.land, 1) := by decide +kernel
theorem d_MD_isName_50 : decode b_MD_isName 50 = .ok (.lstore 6, 2) := by decide +kernel
theorem d_MD_isName_52 : decode b_MD_isName 52 = .ok (.lload 6, 2) := by decide +kernel
theorem d_MD_isName_54 : decode b_MD_isName 54 = .ok (.ldc2_w 63, 3) := by decide +kernel
theorem d_MD_isName_57 : decode b_MD_isName 57 = .ok (.lcmp, 1) := by decide +kernel
theorem d_MD_isName_58 : decode b_MD_isName 58 = .ok (.ifCond .lt 12, 3) := by decide +kernel
theorem d_MD_isName_61 : decode b_MD_isName 61 = .ok (.lload 6, 2) := by decide +kernel
theorem d_MD_isName_63 : decode b_MD_isName 63 = .ok (.ldc2_w 65, 3) := by decide +kernel
theorem d_MD_isName_66 : decode b_MD_isName 66 = .ok (.lcmp, 1) := by decide +kernel
theorem d_MD_isName_67 : decode b_MD_isName 67 = .ok (.ifCond .le 26, 3) := by decide +kernel
theorem d_MD_isName_70 : decode b_MD_isName 70 = .ok (.iload 5, 2) := by decide +kernel
theorem d_MD_isName_72 : decode b_MD_isName 72 = .ok (.ifCond .le 25, 3) := by decide +kernel
theorem d_MD_isName_75 : decode b_MD_isName 75 = .ok (.lload 6, 2) := by decide +kernel
theorem d_MD_isName_77 : decode b_MD_isName 77 = .ok (.ldc2_w 67, 3) := by decide +kernel
theorem d_MD_isName_80 : decode b_MD_isName 80 = .ok (.lcmp, 1) := by decide +kernel
theorem d_MD_isName_81 : decode b_MD_isName 81 = .ok (.ifCond .lt 16, 3) := by decide +kernel
theorem d_MD_isName_84 : decode b_MD_isName 84 = .ok (.lload 6, 2) := by decide +kernel
theorem d_MD_isName_86 : decode b_MD_isName 86 = .ok (.ldc2_w 69, 3) := by decide +kernel
theorem d_MD_isName_89 : decode b_MD_isName 89 = .ok (.lcmp, 1) := by decide +kernel
theorem d_MD_isName_90 : decode b_MD_isName 90 = .ok (.ifCond .gt 7, 3) := by decide +kernel
theorem d_MD_isName_93 : decode b_MD_isName 93 = .ok (.iconst 1, 1) := by decide +kernel
theorem d_MD_isName_94 : decode b_MD_isName 94 = .ok (.goto 4, 3) := by decide +kernel
theorem d_MD_isName_97 : decode b_MD_isName 97 = .ok (.iconst 0, 1) := by decide +kernel
theorem d_MD_isName_98 : decode b_MD_isName 98 = .ok (.istore 4, 2) := by decide +kernel
theorem d_MD_isName_100 : decode b_MD_isName 100 = .ok (.iinc 5 1, 3) := by decide +kernel
theorem d_MD_isName_103 : decode b_MD_isName 103 = .ok (.goto (-79), 3) := by decide +kernel
theorem d_MD_isName_106 : decode b_MD_isName 106 = .ok (.iload 4, 2) := by decide +kernel
theorem d_MD_isName_108 : decode b_MD_isName 108 = .ok (.ireturn, 1) := by decide +kernel
theorem d_MD_globalOf_0 : decode b_MD_globalOf 0 = .ok (.iconst 0, 1) := by decide +kernel
theorem d_MD_globalOf_1 : decode b_MD_globalOf 1 = .ok (.istore_n 3, 1) := by decide +kernel
theorem d_MD_globalOf_2 : decode b_MD_globalOf 2 = .ok (.iload_n 3, 1) := by decide +kernel
theorem d_MD_globalOf_3 : decode b_MD_globalOf 3 = .ok (.aload_n 0, 1) := by decide +kernel
theorem d_MD_globalOf_4 : decode b_MD_globalOf 4 = .ok (.getfield 71, 3) := by decide +kernel
theorem d_MD_globalOf_7 : decode b_MD_globalOf 7 = .ok (.if_icmp .ge 22, 3) := by decide +kernel
theorem d_MD_globalOf_10 : decode b_MD_globalOf 10 = .ok (.aload_n 0, 1) := by decide +kernel
theorem d_MD_globalOf_11 : decode b_MD_globalOf 11 = .ok (.getfield 7, 3) := by decide +kernel
theorem d_MD_globalOf_14 : decode b_MD_globalOf 14 = .ok (.iload_n 3, 1) := by decide +kernel
theorem d_MD_globalOf_15 : decode b_MD_globalOf 15 = .ok (.laload, 1) := by decide +kernel
theorem d_MD_globalOf_16 : decode b_MD_globalOf 16 = .ok (.lload_n 1, 1) := by decide +kernel
theorem d_MD_globalOf_17 : decode b_MD_globalOf 17 = .ok (.lcmp, 1) := by decide +kernel
theorem d_MD_globalOf_18 : decode b_MD_globalOf 18 = .ok (.ifCond .ne 5, 3) := by decide +kernel
theorem d_MD_globalOf_21 : decode b_MD_globalOf 21 = .ok (.iload_n 3, 1) := by decide +kernel
theorem d_MD_globalOf_22 : decode b_MD_globalOf 22 = .ok (.ireturn, 1) := by decide +kernel
theorem d_MD_globalOf_23 : decode b_MD_globalOf 23 = .ok (.iinc 3 1, 3) := by decide +kernel
theorem d_MD_globalOf_26 : decode b_MD_globalOf 26 = .ok (.goto (-24), 3) := by decide +kernel
theorem d_MD_globalOf_29 : decode b_MD_globalOf 29 = .ok (.iconst (-1), 1) := by decide +kernel
theorem d_MD_globalOf_30 : decode b_MD_globalOf 30 = .ok (.ireturn, 1) := by decide +kernel
theorem d_MD_global_0 : decode b_MD_global 0 = .ok (.lload_n 1, 1) := by decide +kernel
theorem d_MD_global_1 : decode b_MD_global 1 = .ok (.iconst 4, 1) := by decide +kernel
theorem d_MD_global_2 : decode b_MD_global 2 = .ok (.invokestatic 74, 3) := by decide +kernel
theorem d_MD_global_5 : decode b_MD_global 5 = .ok (.ifCond .eq 22, 3) := by decide +kernel
theorem d_MD_global_8 : decode b_MD_global 8 = .ok (.aload_n 0, 1) := by decide +kernel
theorem d_MD_global_9 : decode b_MD_global 9 = .ok (.lload_n 1, 1) := by decide +kernel
theorem d_MD_global_10 : decode b_MD_global 10 = .ok (.invokevirtual 78, 3) := by decide +kernel
theorem d_MD_global_13 : decode b_MD_global 13 = .ok (.iconst (-1), 1) := by decide +kernel
theorem d_MD_global_14 : decode b_MD_global 14 = .ok (.if_icmp .ne 13, 3) := by decide +kernel
theorem d_MD_global_17 : decode b_MD_global 17 = .ok (.aload_n 0, 1) := by decide +kernel
theorem d_MD_global_18 : decode b_MD_global 18 = .ok (.getfield 71, 3) := by decide +kernel
theorem d_MD_global_21 : decode b_MD_global 21 = .ok (.sipush 200, 3) := by decide +kernel
theorem d_MD_global_24 : decode b_MD_global 24 = .ok (.if_icmp .ne 5, 3) := by decide +kernel
theorem d_MD_global_27 : decode b_MD_global 27 = .ok (.iconst (-1), 1) := by decide +kernel
theorem d_MD_global_28 : decode b_MD_global 28 = .ok (.ireturn, 1) := by decide +kernel
theorem d_MD_global_29 : decode b_MD_global 29 = .ok (.aload_n 0, 1) := by decide +kernel
theorem d_MD_global_30 : decode b_MD_global 30 = .ok (.getfield 7, 3) := by decide +kernel
theorem d_MD_global_33 : decode b_MD_global 33 = .ok (.aload_n 0, 1) := by decide +kernel
theorem d_MD_global_34 : decode b_MD_global 34 = .ok (.getfield 71, 3) := by decide +kernel
theorem d_MD_global_37 : decode b_MD_global 37 = .ok (.lload_n 1, 1) := by decide +kernel
theorem d_MD_global_38 : decode b_MD_global 38 = .ok (.lastore, 1) := by decide +kernel
theorem d_MD_global_39 : decode b_MD_global 39 = .ok (.aload_n 0, 1) := by decide +kernel
theorem d_MD_global_40 : decode b_MD_global 40 = .ok (.dup, 1) := by decide +kernel
theorem d_MD_global_41 : decode b_MD_global 41 = .ok (.getfield 71, 3) := by decide +kernel
theorem d_MD_global_44 : decode b_MD_global 44 = .ok (.iconst 1, 1) := by decide +kernel
theorem d_MD_global_45 : decode b_MD_global 45 = .ok (.iadd, 1) := by decide +kernel
theorem d_MD_global_46 : decode b_MD_global 46 = .ok (.putfield 71, 3) := by decide +kernel
theorem d_MD_global_49 : decode b_MD_global 49 = .ok (.aload_n 0, 1) := by decide +kernel
theorem d_MD_global_50 : decode b_MD_global 50 = .ok (.getfield 71, 3) := by decide +kernel
theorem d_MD_global_53 : decode b_MD_global 53 = .ok (.iconst 1, 1) := by decide +kernel
theorem d_MD_global_54 : decode b_MD_global 54 = .ok (.isub, 1) := by decide +kernel
theorem d_MD_global_55 : decode b_MD_global 55 = .ok (.ireturn, 1) := by decide +kernel
theorem d_MD_hasParts_0 : decode b_MD_hasParts 0 = .ok (.iload_n 0, 1) := by decide +kernel
theorem d_MD_hasParts_1 : decode b_MD_hasParts 1 = .ok (.ifCond .eq 18, 3) := by decide +kernel
theorem d_MD_hasParts_4 : decode b_MD_hasParts 4 = .ok (.iload_n 0, 1) := by decide +kernel
theorem d_MD_hasParts_5 : decode b_MD_hasParts 5 = .ok (.iconst 5, 1) := by decide +kernel
theorem d_MD_hasParts_6 : decode b_MD_hasParts 6 = .ok (.if_icmp .eq 13, 3) := by decide +kernel
theorem d_MD_hasParts_9 : decode b_MD_hasParts 9 = .ok (.iload_n 0, 1) := by decide +kernel
theorem d_MD_hasParts_10 : decode b_MD_hasParts 10 = .ok (.bipush 7, 2) := by decide +kernel
theorem d_MD_hasParts_12 : decode b_MD_hasParts 12 = .ok (.if_icmp .eq 7, 3) := by decide +kernel
theorem d_MD_hasParts_15 : decode b_MD_hasParts 15 = .ok (.iconst 1, 1) := by decide +kernel
theorem d_MD_hasParts_16 : decode b_MD_hasParts 16 = .ok (.goto 4, 3) := by decide +kernel
theorem d_MD_hasParts_19 : decode b_MD_hasParts 19 = .ok (.iconst 0, 1) := by decide +kernel
theorem d_MD_hasParts_20 : decode b_MD_hasParts 20 = .ok (.ireturn, 1) := by decide +kernel
theorem d_MD_binds_0 : decode b_MD_binds 0 = .ok (.iload_n 0, 1) := by decide +kernel
theorem d_MD_binds_1 : decode b_MD_binds 1 = .ok (.iconst 1, 1) := by decide +kernel
theorem d_MD_binds_2 : decode b_MD_binds 2 = .ok (.if_icmp .eq 19, 3) := by decide +kernel
theorem d_MD_binds_5 : decode b_MD_binds 5 = .ok (.iload_n 0, 1) := by decide +kernel
theorem d_MD_binds_6 : decode b_MD_binds 6 = .ok (.iconst 2, 1) := by decide +kernel
theorem d_MD_binds_7 : decode b_MD_binds 7 = .ok (.if_icmp .eq 14, 3) := by decide +kernel
theorem d_MD_binds_10 : decode b_MD_binds 10 = .ok (.iload_n 0, 1) := by decide +kernel
theorem d_MD_binds_11 : decode b_MD_binds 11 = .ok (.iconst 3, 1) := by decide +kernel
theorem d_MD_binds_12 : decode b_MD_binds 12 = .ok (.if_icmp .eq 9, 3) := by decide +kernel
theorem d_MD_binds_15 : decode b_MD_binds 15 = .ok (.iload_n 0, 1) := by decide +kernel
theorem d_MD_binds_16 : decode b_MD_binds 16 = .ok (.bipush 6, 2) := by decide +kernel
theorem d_MD_binds_18 : decode b_MD_binds 18 = .ok (.if_icmp .ne 7, 3) := by decide +kernel
theorem d_MD_binds_21 : decode b_MD_binds 21 = .ok (.iconst 1, 1) := by decide +kernel
theorem d_MD_binds_22 : decode b_MD_binds 22 = .ok (.goto 4, 3) := by decide +kernel
theorem d_MD_binds_25 : decode b_MD_binds 25 = .ok (.iconst 0, 1) := by decide +kernel
theorem d_MD_binds_26 : decode b_MD_binds 26 = .ok (.ireturn, 1) := by decide +kernel
theorem d_MD_lay_0 : decode b_MD_lay 0 = .ok (.iload_n 1, 1) := by decide +kernel
theorem d_MD_lay_1 : decode b_MD_lay 1 = .ok (.ifCond .lt 16, 3) := by decide +kernel
theorem d_MD_lay_4 : decode b_MD_lay 4 = .ok (.iload_n 1, 1) := by decide +kernel
theorem d_MD_lay_5 : decode b_MD_lay 5 = .ok (.iconst 4, 1) := by decide +kernel
theorem d_MD_lay_6 : decode b_MD_lay 6 = .ok (.if_icmp .ge 11, 3) := by decide +kernel
theorem d_MD_lay_9 : decode b_MD_lay 9 = .ok (.lload_n 2, 1) := by decide +kernel
theorem d_MD_lay_10 : decode b_MD_lay 10 = .ok (.iconst 4, 1) := by decide +kernel
theorem d_MD_lay_11 : decode b_MD_lay 11 = .ok (.invokestatic 74, 3) := by decide +kernel
theorem d_MD_lay_14 : decode b_MD_lay 14 = .ok (.goto 52, 3) := by decide +kernel
theorem d_MD_lay_17 : decode b_MD_lay 17 = .ok (.iload_n 1, 1) := by decide +kernel
theorem d_MD_lay_18 : decode b_MD_lay 18 = .ok (.iconst 5, 1) := by decide +kernel
theorem d_MD_lay_19 : decode b_MD_lay 19 = .ok (.if_icmp .ne 25, 3) := by decide +kernel
theorem d_MD_lay_22 : decode b_MD_lay 22 = .ok (.lload_n 2, 1) := by decide +kernel
theorem d_MD_lay_23 : decode b_MD_lay 23 = .ok (.lconst 0, 1) := by decide +kernel
theorem d_MD_lay_24 : decode b_MD_lay 24 = .ok (.lcmp, 1) := by decide +kernel
theorem d_MD_lay_25 : decode b_MD_lay 25 = .ok (.ifCond .lt 15, 3) := by decide +kernel
theorem d_MD_lay_28 : decode b_MD_lay 28 = .ok (.lload_n 2, 1) := by decide +kernel
theorem d_MD_lay_29 : decode b_MD_lay 29 = .ok (.ldc2_w 81, 3) := by decide +kernel
theorem d_MD_lay_32 : decode b_MD_lay 32 = .ok (.lcmp, 1) := by decide +kernel
theorem d_MD_lay_33 : decode b_MD_lay 33 = .ok (.ifCond .gt 7, 3) := by decide +kernel
theorem d_MD_lay_36 : decode b_MD_lay 36 = .ok (.iconst 1, 1) := by decide +kernel
theorem d_MD_lay_37 : decode b_MD_lay 37 = .ok (.goto 29, 3) := by decide +kernel
theorem d_MD_lay_40 : decode b_MD_lay 40 = .ok (.iconst 0, 1) := by decide +kernel
theorem d_MD_lay_41 : decode b_MD_lay 41 = .ok (.goto 25, 3) := by decide +kernel
theorem d_MD_lay_44 : decode b_MD_lay 44 = .ok (.iload_n 1, 1) := by decide +kernel
theorem d_MD_lay_45 : decode b_MD_lay 45 = .ok (.iconst 4, 1) := by decide +kernel
theorem d_MD_lay_46 : decode b_MD_lay 46 = .ok (.if_icmp .eq 9, 3) := by decide +kernel
theorem d_MD_lay_49 : decode b_MD_lay 49 = .ok (.iload_n 1, 1) := by decide +kernel
theorem d_MD_lay_50 : decode b_MD_lay 50 = .ok (.bipush 6, 2) := by decide +kernel
theorem d_MD_lay_52 : decode b_MD_lay 52 = .ok (.if_icmp .ne 13, 3) := by decide +kernel
theorem d_MD_lay_55 : decode b_MD_lay 55 = .ok (.lload_n 2, 1) := by decide +kernel
theorem d_MD_lay_56 : decode b_MD_lay 56 = .ok (.lconst 0, 1) := by decide +kernel
theorem d_MD_lay_57 : decode b_MD_lay 57 = .ok (.lcmp, 1) := by decide +kernel
theorem d_MD_lay_58 : decode b_MD_lay 58 = .ok (.ifCond .ne 7, 3) := by decide +kernel
theorem d_MD_lay_61 : decode b_MD_lay 61 = .ok (.iconst 1, 1) := by decide +kernel
theorem d_MD_lay_62 : decode b_MD_lay 62 = .ok (.goto 4, 3) := by decide +kernel
theorem d_MD_lay_65 : decode b_MD_lay 65 = .ok (.iconst 0, 1) := by decide +kernel
theorem d_MD_lay_66 : decode b_MD_lay 66 = .ok (.istore 4, 2) := by decide +kernel
theorem d_MD_lay_68 : decode b_MD_lay 68 = .ok (.iload 4, 2) := by decide +kernel
theorem d_MD_lay_70 : decode b_MD_lay 70 = .ok (.ifCond .eq 13, 3) := by decide +kernel
theorem d_MD_lay_73 : decode b_MD_lay 73 = .ok (.aload_n 0, 1) := by decide +kernel
theorem d_MD_lay_74 : decode b_MD_lay 74 = .ok (.getfield 83, 3) := by decide +kernel
theorem d_MD_lay_77 : decode b_MD_lay 77 = .ok (.sipush 3000, 3) := by decide +kernel
theorem d_MD_lay_80 : decode b_MD_lay 80 = .ok (.if_icmp .ne 5, 3) := by decide +kernel
theorem d_MD_lay_83 : decode b_MD_lay 83 = .ok (.iconst (-1), 1) := by decide +kernel
theorem d_MD_lay_84 : decode b_MD_lay 84 = .ok (.ireturn, 1) := by decide +kernel
theorem d_MD_lay_85 : decode b_MD_lay 85 = .ok (.aload_n 0, 1) := by decide +kernel
theorem d_MD_lay_86 : decode b_MD_lay 86 = .ok (.getfield 13, 3) := by decide +kernel
theorem d_MD_lay_89 : decode b_MD_lay 89 = .ok (.aload_n 0, 1) := by decide +kernel
theorem d_MD_lay_90 : decode b_MD_lay 90 = .ok (.getfield 83, 3) := by decide +kernel
theorem d_MD_lay_93 : decode b_MD_lay 93 = .ok (.iload_n 1, 1) := by decide +kernel
theorem d_MD_lay_94 : decode b_MD_lay 94 = .ok (.iastore, 1) := by decide +kernel
theorem d_MD_lay_95 : decode b_MD_lay 95 = .ok (.aload_n 0, 1) := by decide +kernel
theorem d_MD_lay_96 : decode b_MD_lay 96 = .ok (.getfield 17, 3) := by decide +kernel
theorem d_MD_lay_99 : decode b_MD_lay 99 = .ok (.aload_n 0, 1) := by decide +kernel
theorem d_MD_lay_100 : decode b_MD_lay 100 = .ok (.getfield 83, 3) := by decide +kernel
theorem d_MD_lay_103 : decode b_MD_lay 103 = .ok (.lload_n 2, 1) := by decide +kernel
theorem d_MD_lay_104 : decode b_MD_lay 104 = .ok (.lastore, 1) := by decide +kernel
theorem d_MD_lay_105 : decode b_MD_lay 105 = .ok (.aload_n 0, 1) := by decide +kernel
theorem d_MD_lay_106 : decode b_MD_lay 106 = .ok (.dup, 1) := by decide +kernel
theorem d_MD_lay_107 : decode b_MD_lay 107 = .ok (.getfield 83, 3) := by decide +kernel
theorem d_MD_lay_110 : decode b_MD_lay 110 = .ok (.iconst 1, 1) := by decide +kernel
theorem d_MD_lay_111 : decode b_MD_lay 111 = .ok (.iadd, 1) := by decide +kernel
theorem d_MD_lay_112 : decode b_MD_lay 112 = .ok (.putfield 83, 3) := by decide +kernel
theorem d_MD_lay_115 : decode b_MD_lay 115 = .ok (.aload_n 0, 1) := by decide +kernel
theorem d_MD_lay_116 : decode b_MD_lay 116 = .ok (.getfield 83, 3) := by decide +kernel
theorem d_MD_lay_119 : decode b_MD_lay 119 = .ok (.ireturn, 1) := by decide +kernel
theorem d_MD_drop_0 : decode b_MD_drop 0 = .ok (.aload_n 0, 1) := by decide +kernel
theorem d_MD_drop_1 : decode b_MD_drop 1 = .ok (.getfield 83, 3) := by decide +kernel
theorem d_MD_drop_4 : decode b_MD_drop 4 = .ok (.istore_n 1, 1) := by decide +kernel
theorem d_MD_drop_5 : decode b_MD_drop 5 = .ok (.aload_n 0, 1) := by decide +kernel
theorem d_MD_drop_6 : decode b_MD_drop 6 = .ok (.iconst 0, 1) := by decide +kernel
theorem d_MD_drop_7 : decode b_MD_drop 7 = .ok (.putfield 83, 3) := by decide +kernel
theorem d_MD_drop_10 : decode b_MD_drop 10 = .ok (.iload_n 1, 1) := by decide +kernel
theorem d_MD_drop_11 : decode b_MD_drop 11 = .ok (.ireturn, 1) := by decide +kernel
theorem d_MD_isOneTerm_0 : decode b_MD_isOneTerm 0 = .ok (.iconst 1, 1) := by decide +kernel
theorem d_MD_isOneTerm_1 : decode b_MD_isOneTerm 1 = .ok (.istore_n 1, 1) := by decide +kernel
theorem d_MD_isOneTerm_2 : decode b_MD_isOneTerm 2 = .ok (.iconst 0, 1) := by decide +kernel
theorem d_MD_isOneTerm_3 : decode b_MD_isOneTerm 3 = .ok (.istore_n 2, 1) := by decide +kernel
theorem d_MD_isOneTerm_4 : decode b_MD_isOneTerm 4 = .ok (.iload_n 2, 1) := by decide +kernel
theorem d_MD_isOneTerm_5 : decode b_MD_isOneTerm 5 = .ok (.aload_n 0, 1) := by decide +kernel
theorem d_MD_isOneTerm_6 : decode b_MD_isOneTerm 6 = .ok (.getfield 83, 3) := by decide +kernel
theorem d_MD_isOneTerm_9 : decode b_MD_isOneTerm 9 = .ok (.if_icmp .ge 35, 3) := by decide +kernel
theorem d_MD_isOneTerm_12 : decode b_MD_isOneTerm 12 = .ok (.iload_n 1, 1) := by decide +kernel
theorem d_MD_isOneTerm_13 : decode b_MD_isOneTerm 13 = .ok (.ifCond .ne 5, 3) := by decide +kernel
theorem d_MD_isOneTerm_16 : decode b_MD_isOneTerm 16 = .ok (.iconst 0, 1) := by decide +kernel
theorem d_MD_isOneTerm_17 : decode b_MD_isOneTerm 17 = .ok (.ireturn, 1) := by decide +kernel
theorem d_MD_isOneTerm_18 : decode b_MD_isOneTerm 18 = .ok (.iload_n 1, 1) := by decide +kernel
theorem d_MD_isOneTerm_19 : decode b_MD_isOneTerm 19 = .ok (.aload_n 0, 1) := by decide +kernel
theorem d_MD_isOneTerm_20 : decode b_MD_isOneTerm 20 = .ok (.getfield 13, 3) := by decide +kernel
theorem d_MD_isOneTerm_23 : decode b_MD_isOneTerm 23 = .ok (.iload_n 2, 1) := by decide +kernel
theorem d_MD_isOneTerm_24 : decode b_MD_isOneTerm 24 = .ok (.iaload, 1) := by decide +kernel
theorem d_MD_isOneTerm_25 : decode b_MD_isOneTerm 25 = .ok (.invokestatic 86, 3) := by decide +kernel
theorem d_MD_isOneTerm_28 : decode b_MD_isOneTerm 28 = .ok (.ifCond .eq 7, 3) := by decide +kernel
theorem d_MD_isOneTerm_31 : decode b_MD_isOneTerm 31 = .ok (.iconst 1, 1) := by decide +kernel
theorem d_MD_isOneTerm_32 : decode b_MD_isOneTerm 32 = .ok (.goto 4, 3) := by decide +kernel
theorem d_MD_isOneTerm_35 : decode b_MD_isOneTerm 35 = .ok (.iconst (-1), 1) := by decide +kernel
theorem d_MD_isOneTerm_36 : decode b_MD_isOneTerm 36 = .ok (.iadd, 1) := by decide +kernel
theorem d_MD_isOneTerm_37 : decode b_MD_isOneTerm 37 = .ok (.istore_n 1, 1) := by decide +kernel
theorem d_MD_isOneTerm_38 : decode b_MD_isOneTerm 38 = .ok (.iinc 2 1, 3) := by decide +kernel
theorem d_MD_isOneTerm_41 : decode b_MD_isOneTerm 41 = .ok (.goto (-37), 3) := by decide +kernel
theorem d_MD_isOneTerm_44 : decode b_MD_isOneTerm 44 = .ok (.iload_n 1, 1) := by decide +kernel
theorem d_MD_isOneTerm_45 : decode b_MD_isOneTerm 45 = .ok (.ifCond .ne 7, 3) := by decide +kernel
theorem d_MD_isOneTerm_48 : decode b_MD_isOneTerm 48 = .ok (.iconst 1, 1) := by decide +kernel
theorem d_MD_isOneTerm_49 : decode b_MD_isOneTerm 49 = .ok (.goto 4, 3) := by decide +kernel
theorem d_MD_isOneTerm_52 : decode b_MD_isOneTerm 52 = .ok (.iconst 0, 1) := by decide +kernel
theorem d_MD_isOneTerm_53 : decode b_MD_isOneTerm 53 = .ok (.ireturn, 1) := by decide +kernel
theorem d_MD_kindOf_0 : decode b_MD_kindOf 0 = .ok (.iload_n 1, 1) := by decide +kernel
theorem d_MD_kindOf_1 : decode b_MD_kindOf 1 = .ok (.ifCond .eq 12, 3) := by decide +kernel
theorem d_MD_kindOf_4 : decode b_MD_kindOf 4 = .ok (.aload_n 0, 1) := by decide +kernel
theorem d_MD_kindOf_5 : decode b_MD_kindOf 5 = .ok (.getfield 13, 3) := by decide +kernel
theorem d_MD_kindOf_8 : decode b_MD_kindOf 8 = .ok (.iload_n 2, 1) := by decide +kernel
theorem d_MD_kindOf_9 : decode b_MD_kindOf 9 = .ok (.iaload, 1) := by decide +kernel
theorem d_MD_kindOf_10 : decode b_MD_kindOf 10 = .ok (.goto 9, 3) := by decide +kernel
theorem d_MD_kindOf_13 : decode b_MD_kindOf 13 = .ok (.aload_n 0, 1) := by decide +kernel
theorem d_MD_kindOf_14 : decode b_MD_kindOf 14 = .ok (.getfield 20, 3) := by decide +kernel
theorem d_MD_kindOf_17 : decode b_MD_kindOf 17 = .ok (.iload_n 2, 1) := by decide +kernel
theorem d_MD_kindOf_18 : decode b_MD_kindOf 18 = .ok (.iaload, 1) := by decide +kernel
theorem d_MD_kindOf_19 : decode b_MD_kindOf 19 = .ok (.ireturn, 1) := by decide +kernel
theorem d_MD_measure_0 : decode b_MD_measure 0 = .ok (.iload_n 1, 1) := by decide +kernel
theorem d_MD_measure_1 : decode b_MD_measure 1 = .ok (.ifCond .eq 10, 3) := by decide +kernel
theorem d_MD_measure_4 : decode b_MD_measure 4 = .ok (.aload_n 0, 1) := by decide +kernel
theorem d_MD_measure_5 : decode b_MD_measure 5 = .ok (.getfield 83, 3) := by decide +kernel
theorem d_MD_measure_8 : decode b_MD_measure 8 = .ok (.goto 7, 3) := by decide +kernel
theorem d_MD_measure_11 : decode b_MD_measure 11 = .ok (.aload_n 0, 1) := by decide +kernel
theorem d_MD_measure_12 : decode b_MD_measure 12 = .ok (.getfield 53, 3) := by decide +kernel
theorem d_MD_measure_15 : decode b_MD_measure 15 = .ok (.istore_n 2, 1) := by decide +kernel
theorem d_MD_measure_16 : decode b_MD_measure 16 = .ok (.iload_n 2, 1) := by decide +kernel
theorem d_MD_measure_17 : decode b_MD_measure 17 = .ok (.iconst 1, 1) := by decide +kernel
theorem d_MD_measure_18 : decode b_MD_measure 18 = .ok (.isub, 1) := by decide +kernel
theorem d_MD_measure_19 : decode b_MD_measure 19 = .ok (.istore_n 3, 1) := by decide +kernel
theorem d_MD_measure_20 : decode b_MD_measure 20 = .ok (.iload_n 3, 1) := by decide +kernel
theorem d_MD_measure_21 : decode b_MD_measure 21 = .ok (.ifCond .lt 83, 3) := by decide +kernel
theorem d_MD_measure_24 : decode b_MD_measure 24 = .ok (.aload_n 0, 1) := by decide +kernel
theorem d_MD_measure_25 : decode b_MD_measure 25 = .ok (.getfield 44, 3) := by decide +kernel
theorem d_MD_measure_28 : decode b_MD_measure 28 = .ok (.iload_n 3, 1) := by decide +kernel
theorem d_MD_measure_29 : decode b_MD_measure 29 = .ok (.iconst 1, 1) := by decide +kernel
theorem d_MD_measure_30 : decode b_MD_measure 30 = .ok (.iastore, 1) := by decide +kernel
theorem d_MD_measure_31 : decode b_MD_measure 31 = .ok (.aload_n 0, 1) := by decide +kernel
theorem d_MD_measure_32 : decode b_MD_measure 32 = .ok (.iload_n 1, 1) := by decide +kernel
theorem d_MD_measure_33 : decode b_MD_measure 33 = .ok (.iload_n 3, 1) := by decide +kernel
theorem d_MD_measure_34 : decode b_MD_measure 34 = .ok (.invokevirtual 90, 3) := by decide +kernel
theorem d_MD_measure_37 : decode b_MD_measure 37 = .ok (.invokestatic 86, 3) := by decide +kernel
theorem d_MD_measure_40 : decode b_MD_measure 40 = .ok (.ifCond .eq 58, 3) := by decide +kernel
theorem d_MD_measure_43 : decode b_MD_measure 43 = .ok (.iload_n 3, 1) := by decide +kernel
theorem d_MD_measure_44 : decode b_MD_measure 44 = .ok (.iconst 1, 1) := by decide +kernel
theorem d_MD_measure_45 : decode b_MD_measure 45 = .ok (.iadd, 1) := by decide +kernel
theorem d_MD_measure_46 : decode b_MD_measure 46 = .ok (.aload_n 0, 1) := by decide +kernel
theorem d_MD_measure_47 : decode b_MD_measure 47 = .ok (.getfield 44, 3) := by decide +kernel
theorem d_MD_measure_50 : decode b_MD_measure 50 = .ok (.iload_n 3, 1) := by decide +kernel
theorem d_MD_measure_51 : decode b_MD_measure 51 = .ok (.iconst 1, 1) := by decide +kernel
theorem d_MD_measure_52 : decode b_MD_measure 52 = .ok (.iadd, 1) := by decide +kernel
theorem d_MD_measure_53 : decode b_MD_measure 53 = .ok (.iaload, 1) := by decide +kernel
theorem d_MD_measure_54 : decode b_MD_measure 54 = .ok (.iadd, 1) := by decide +kernel
theorem d_MD_measure_55 : decode b_MD_measure 55 = .ok (.istore 4, 2) := by decide +kernel
theorem d_MD_measure_57 : decode b_MD_measure 57 = .ok (.aload_n 0, 1) := by decide +kernel
theorem d_MD_measure_58 : decode b_MD_measure 58 = .ok (.getfield 44, 3) := by decide +kernel
theorem d_MD_measure_61 : decode b_MD_measure 61 = .ok (.iload_n 3, 1) := by decide +kernel
theorem d_MD_measure_62 : decode b_MD_measure 62 = .ok (.iconst 1, 1) := by decide +kernel
theorem d_MD_measure_63 : decode b_MD_measure 63 = .ok (.aload_n 0, 1) := by decide +kernel
theorem d_MD_measure_64 : decode b_MD_measure 64 = .ok (.getfield 44, 3) := by decide +kernel
theorem d_MD_measure_67 : decode b_MD_measure 67 = .ok (.iload_n 3, 1) := by decide +kernel
theorem d_MD_measure_68 : decode b_MD_measure 68 = .ok (.iconst 1, 1) := by decide +kernel
theorem d_MD_measure_69 : decode b_MD_measure 69 = .ok (.iadd, 1) := by decide +kernel
theorem d_MD_measure_70 : decode b_MD_measure 70 = .ok (.iaload, 1) := by decide +kernel
theorem d_MD_measure_71 : decode b_MD_measure 71 = .ok (.iadd, 1) := by decide +kernel
theorem d_MD_measure_72 : decode b_MD_measure 72 = .ok (.aload_n 0, 1) := by decide +kernel
theorem d_MD_measure_73 : decode b_MD_measure 73 = .ok (.getfield 44, 3) := by decide +kernel
theorem d_MD_measure_76 : decode b_MD_measure 76 = .ok (.iload 4, 2) := by decide +kernel
theorem d_MD_measure_78 : decode b_MD_measure 78 = .ok (.iaload, 1) := by decide +kernel
theorem d_MD_measure_79 : decode b_MD_measure 79 = .ok (.iadd, 1) := by decide +kernel
theorem d_MD_measure_80 : decode b_MD_measure 80 = .ok (.iastore, 1) := by decide +kernel
theorem d_MD_measure_81 : decode b_MD_measure 81 = .ok (.aload_n 0, 1) := by decide +kernel
theorem d_MD_measure_82 : decode b_MD_measure 82 = .ok (.getfield 47, 3) := by decide +kernel
theorem d_MD_measure_85 : decode b_MD_measure 85 = .ok (.iload_n 3, 1) := by decide +kernel
theorem d_MD_measure_86 : decode b_MD_measure 86 = .ok (.iconst 1, 1) := by decide +kernel
theorem d_MD_measure_87 : decode b_MD_measure 87 = .ok (.iadd, 1) := by decide +kernel
theorem d_MD_measure_88 : decode b_MD_measure 88 = .ok (.iload_n 3, 1) := by decide +kernel
theorem d_MD_measure_89 : decode b_MD_measure 89 = .ok (.iastore, 1) := by decide +kernel
theorem d_MD_measure_90 : decode b_MD_measure 90 = .ok (.aload_n 0, 1) := by decide +kernel
theorem d_MD_measure_91 : decode b_MD_measure 91 = .ok (.getfield 47, 3) := by decide +kernel
theorem d_MD_measure_94 : decode b_MD_measure 94 = .ok (.iload 4, 2) := by decide +kernel
theorem d_MD_measure_96 : decode b_MD_measure 96 = .ok (.iload_n 3, 1) := by decide +kernel
theorem d_MD_measure_97 : decode b_MD_measure 97 = .ok (.iastore, 1) := by decide +kernel
theorem d_MD_measure_98 : decode b_MD_measure 98 = .ok (.iinc 3 (-1), 3) := by decide +kernel
theorem d_MD_measure_101 : decode b_MD_measure 101 = .ok (.goto (-81), 3) := by decide +kernel
theorem d_MD_measure_104 : decode b_MD_measure 104 = .ok (.iload_n 2, 1) := by decide +kernel
theorem d_MD_measure_105 : decode b_MD_measure 105 = .ok (.ifCond .le 10, 3) := by decide +kernel
theorem d_MD_measure_108 : decode b_MD_measure 108 = .ok (.aload_n 0, 1) := by decide +kernel
theorem d_MD_measure_109 : decode b_MD_measure 109 = .ok (.getfield 47, 3) := by decide +kernel
theorem d_MD_measure_112 : decode b_MD_measure 112 = .ok (.iconst 0, 1) := by decide +kernel
theorem d_MD_measure_113 : decode b_MD_measure 113 = .ok (.iconst (-1), 1) := by decide +kernel
theorem d_MD_measure_114 : decode b_MD_measure 114 = .ok (.iastore, 1) := by decide +kernel
theorem d_MD_measure_115 : decode b_MD_measure 115 = .ok (.return_, 1) := by decide +kernel
theorem d_MD_lastOf_0 : decode b_MD_lastOf 0 = .ok (.iload_n 1, 1) := by decide +kernel
theorem d_MD_lastOf_1 : decode b_MD_lastOf 1 = .ok (.iconst 1, 1) := by decide +kernel
theorem d_MD_lastOf_2 : decode b_MD_lastOf 2 = .ok (.iadd, 1) := by decide +kernel
theorem d_MD_lastOf_3 : decode b_MD_lastOf 3 = .ok (.aload_n 0, 1) := by decide +kernel
theorem d_MD_lastOf_4 : decode b_MD_lastOf 4 = .ok (.getfield 44, 3) := by decide +kernel
theorem d_MD_lastOf_7 : decode b_MD_lastOf 7 = .ok (.iload_n 1, 1) := by decide +kernel
theorem d_MD_lastOf_8 : decode b_MD_lastOf 8 = .ok (.iconst 1, 1) := by decide +kernel
theorem d_MD_lastOf_9 : decode b_MD_lastOf 9 = .ok (.iadd, 1) := by decide +kernel
theorem d_MD_lastOf_10 : decode b_MD_lastOf 10 = .ok (.iaload, 1) := by decide +kernel
theorem d_MD_lastOf_11 : decode b_MD_lastOf 11 = .ok (.iadd, 1) := by decide +kernel
theorem d_MD_lastOf_12 : decode b_MD_lastOf 12 = .ok (.ireturn, 1) := by decide +kernel
theorem d_MD_meaningOf_0 : decode b_MD_meaningOf 0 = .ok (.iconst 0, 1) := by decide +kernel
theorem d_MD_meaningOf_1 : decode b_MD_meaningOf 1 = .ok (.istore_n 2, 1) := by decide +kernel
theorem d_MD_meaningOf_2 : decode b_MD_meaningOf 2 = .ok (.iload_n 1, 1) := by decide +kernel
theorem d_MD_meaningOf_3 : decode b_MD_meaningOf 3 = .ok (.istore_n 3, 1) := by decide +kernel
theorem d_MD_meaningOf_4 : decode b_MD_meaningOf 4 = .ok (.aload_n 0, 1) := by decide +kernel
theorem d_MD_meaningOf_5 : decode b_MD_meaningOf 5 = .ok (.iconst 1, 1) := by decide +kernel
theorem d_MD_meaningOf_6 : decode b_MD_meaningOf 6 = .ok (.putfield 94, 3) := by decide +kernel
theorem d_MD_meaningOf_9 : decode b_MD_meaningOf 9 = .ok (.aload_n 0, 1) := by decide +kernel
theorem d_MD_meaningOf_10 : decode b_MD_meaningOf 10 = .ok (.getfield 47, 3) := by decide +kernel
theorem d_MD_meaningOf_13 : decode b_MD_meaningOf 13 = .ok (.iload_n 1, 1) := by decide +kernel
theorem d_MD_meaningOf_14 : decode b_MD_meaningOf 14 = .ok (.iaload, 1) := by decide +kernel
theorem d_MD_meaningOf_15 : decode b_MD_meaningOf 15 = .ok (.istore 4, 2) := by decide +kernel
theorem d_MD_meaningOf_17 : decode b_MD_meaningOf 17 = .ok (.iload 4, 2) := by decide +kernel
theorem d_MD_meaningOf_19 : decode b_MD_meaningOf 19 = .ok (.iconst (-1), 1) := by decide +kernel
theorem d_MD_meaningOf_20 : decode b_MD_meaningOf 20 = .ok (.if_icmp .eq 81, 3) := by decide +kernel
theorem d_MD_meaningOf_23 : decode b_MD_meaningOf 23 = .ok (.aload_n 0, 1) := by decide +kernel
theorem d_MD_meaningOf_24 : decode b_MD_meaningOf 24 = .ok (.getfield 13, 3) := by decide +kernel
theorem d_MD_meaningOf_27 : decode b_MD_meaningOf 27 = .ok (.iload 4, 2) := by decide +kernel
theorem d_MD_meaningOf_29 : decode b_MD_meaningOf 29 = .ok (.iaload, 1) := by decide +kernel
theorem d_MD_meaningOf_30 : decode b_MD_meaningOf 30 = .ok (.invokestatic 98, 3) := by decide +kernel
theorem d_MD_meaningOf_33 : decode b_MD_meaningOf 33 = .ok (.ifCond .eq 53, 3) := by decide +kernel
theorem d_MD_meaningOf_36 : decode b_MD_meaningOf 36 = .ok (.iload_n 3, 1) := by decide +kernel
theorem d_MD_meaningOf_37 : decode b_MD_meaningOf 37 = .ok (.aload_n 0, 1) := by decide +kernel
theorem d_MD_meaningOf_38 : decode b_MD_meaningOf 38 = .ok (.iload 4, 2) := by decide +kernel
theorem d_MD_meaningOf_40 : decode b_MD_meaningOf 40 = .ok (.invokevirtual 101, 3) := by decide +kernel
theorem d_MD_meaningOf_43 : decode b_MD_meaningOf 43 = .ok (.if_icmp .ne 43, 3) := by decide +kernel
theorem d_MD_meaningOf_46 : decode b_MD_meaningOf 46 = .ok (.aload_n 0, 1) := by decide +kernel
theorem d_MD_meaningOf_47 : decode b_MD_meaningOf 47 = .ok (.getfield 13, 3) := by decide +kernel
theorem d_MD_meaningOf_50 : decode b_MD_meaningOf 50 = .ok (.iload 4, 2) := by decide +kernel
theorem d_MD_meaningOf_52 : decode b_MD_meaningOf 52 = .ok (.iaload, 1) := by decide +kernel
theorem d_MD_meaningOf_53 : decode b_MD_meaningOf 53 = .ok (.bipush 6, 2) := by decide +kernel
theorem d_MD_meaningOf_55 : decode b_MD_meaningOf 55 = .ok (.if_icmp .eq 28, 3) := by decide +kernel
theorem d_MD_meaningOf_58 : decode b_MD_meaningOf 58 = .ok (.aload_n 0, 1) := by decide +kernel
theorem d_MD_meaningOf_59 : decode b_MD_meaningOf 59 = .ok (.getfield 17, 3) := by decide +kernel
theorem d_MD_meaningOf_62 : decode b_MD_meaningOf 62 = .ok (.iload 4, 2) := by decide +kernel
theorem d_MD_meaningOf_64 : decode b_MD_meaningOf 64 = .ok (.laload, 1) := by decide +kernel
theorem d_MD_meaningOf_65 : decode b_MD_meaningOf 65 = .ok (.aload_n 0, 1) := by decide +kernel
theorem d_MD_meaningOf_66 : decode b_MD_meaningOf 66 = .ok (.getfield 17, 3) := by decide +kernel
theorem d_MD_meaningOf_69 : decode b_MD_meaningOf 69 = .ok (.iload_n 1, 1) := by decide +kernel
theorem d_MD_meaningOf_70 : decode b_MD_meaningOf 70 = .ok (.laload, 1) := by decide +kernel
theorem d_MD_meaningOf_71 : decode b_MD_meaningOf 71 = .ok (.lcmp, 1) := by decide +kernel
theorem d_MD_meaningOf_72 : decode b_MD_meaningOf 72 = .ok (.ifCond .ne 11, 3) := by decide +kernel
theorem d_MD_meaningOf_75 : decode b_MD_meaningOf 75 = .ok (.aload_n 0, 1) := by decide +kernel
theorem d_MD_meaningOf_76 : decode b_MD_meaningOf 76 = .ok (.iload_n 2, 1) := by decide +kernel
theorem d_MD_meaningOf_77 : decode b_MD_meaningOf 77 = .ok (.i2l, 1) := by decide +kernel
theorem d_MD_meaningOf_78 : decode b_MD_meaningOf 78 = .ok (.putfield 105, 3) := by decide +kernel
theorem d_MD_meaningOf_81 : decode b_MD_meaningOf 81 = .ok (.iconst 0, 1) := by decide +kernel
theorem d_MD_meaningOf_82 : decode b_MD_meaningOf 82 = .ok (.ireturn, 1) := by decide +kernel
theorem d_MD_meaningOf_83 : decode b_MD_meaningOf 83 = .ok (.iinc 2 1, 3) := by decide +kernel
theorem d_MD_meaningOf_86 : decode b_MD_meaningOf 86 = .ok (.iload 4, 2) := by decide +kernel
theorem d_MD_meaningOf_88 : decode b_MD_meaningOf 88 = .ok (.istore_n 3, 1) := by decide +kernel
theorem d_MD_meaningOf_89 : decode b_MD_meaningOf 89 = .ok (.aload_n 0, 1) := by decide +kernel
theorem d_MD_meaningOf_90 : decode b_MD_meaningOf 90 = .ok (.getfield 47, 3) := by decide +kernel
theorem d_MD_meaningOf_93 : decode b_MD_meaningOf 93 = .ok (.iload 4, 2) := by decide +kernel
theorem d_MD_meaningOf_95 : decode b_MD_meaningOf 95 = .ok (.iaload, 1) := by decide +kernel
theorem d_MD_meaningOf_96 : decode b_MD_meaningOf 96 = .ok (.istore 4, 2) := by decide +kernel
theorem d_MD_meaningOf_98 : decode b_MD_meaningOf 98 = .ok (.goto (-81), 3) := by decide +kernel
theorem d_MD_meaningOf_101 : decode b_MD_meaningOf 101 = .ok (.aload_n 0, 1) := by decide +kernel
theorem d_MD_meaningOf_102 : decode b_MD_meaningOf 102 = .ok (.aload_n 0, 1) := by decide +kernel
theorem d_MD_meaningOf_103 : decode b_MD_meaningOf 103 = .ok (.getfield 17, 3) := by decide +kernel
theorem d_MD_meaningOf_106 : decode b_MD_meaningOf 106 = .ok (.iload_n 1, 1) := by decide +kernel
theorem d_MD_meaningOf_107 : decode b_MD_meaningOf 107 = .ok (.laload, 1) := by decide +kernel
theorem d_MD_meaningOf_108 : decode b_MD_meaningOf 108 = .ok (.invokevirtual 78, 3) := by decide +kernel
theorem d_MD_meaningOf_111 : decode b_MD_meaningOf 111 = .ok (.istore 4, 2) := by decide +kernel
theorem d_MD_meaningOf_113 : decode b_MD_meaningOf 113 = .ok (.aload_n 0, 1) := by decide +kernel
theorem d_MD_meaningOf_114 : decode b_MD_meaningOf 114 = .ok (.iload 4, 2) := by decide +kernel
theorem d_MD_meaningOf_116 : decode b_MD_meaningOf 116 = .ok (.iconst (-1), 1) := by decide +kernel
theorem d_MD_meaningOf_117 : decode b_MD_meaningOf 117 = .ok (.if_icmp .eq 7, 3) := by decide +kernel
theorem d_MD_meaningOf_120 : decode b_MD_meaningOf 120 = .ok (.iconst 1, 1) := by decide +kernel
theorem d_MD_meaningOf_121 : decode b_MD_meaningOf 121 = .ok (.goto 4, 3) := by decide +kernel
theorem d_MD_meaningOf_124 : decode b_MD_meaningOf 124 = .ok (.iconst 0, 1) := by decide +kernel
theorem d_MD_meaningOf_125 : decode b_MD_meaningOf 125 = .ok (.putfield 94, 3) := by decide +kernel
theorem d_MD_meaningOf_128 : decode b_MD_meaningOf 128 = .ok (.aload_n 0, 1) := by decide +kernel
theorem d_MD_meaningOf_129 : decode b_MD_meaningOf 129 = .ok (.iload 4, 2) := by decide +kernel
theorem d_MD_meaningOf_131 : decode b_MD_meaningOf 131 = .ok (.i2l, 1) := by decide +kernel
theorem d_MD_meaningOf_132 : decode b_MD_meaningOf 132 = .ok (.putfield 105, 3) := by decide +kernel
theorem d_MD_meaningOf_135 : decode b_MD_meaningOf 135 = .ok (.bipush 7, 2) := by decide +kernel
theorem d_MD_meaningOf_137 : decode b_MD_meaningOf 137 = .ok (.ireturn, 1) := by decide +kernel
theorem d_MD_cut_0 : decode b_MD_cut 0 = .ok (.lload_n 0, 1) := by decide +kernel
theorem d_MD_cut_1 : decode b_MD_cut 1 = .ok (.invokestatic 57, 3) := by decide +kernel
theorem d_MD_cut_4 : decode b_MD_cut 4 = .ok (.iconst 4, 1) := by decide +kernel
theorem d_MD_cut_5 : decode b_MD_cut 5 = .ok (.if_icmp .le 17, 3) := by decide +kernel
theorem d_MD_cut_8 : decode b_MD_cut 8 = .ok (.lload_n 0, 1) := by decide +kernel
theorem d_MD_cut_9 : decode b_MD_cut 9 = .ok (.bipush 8, 2) := by decide +kernel
theorem d_MD_cut_11 : decode b_MD_cut 11 = .ok (.lload_n 0, 1) := by decide +kernel
theorem d_MD_cut_12 : decode b_MD_cut 12 = .ok (.invokestatic 57, 3) := by decide +kernel
theorem d_MD_cut_15 : decode b_MD_cut 15 = .ok (.iconst 4, 1) := by decide +kernel
theorem d_MD_cut_16 : decode b_MD_cut 16 = .ok (.isub, 1) := by decide +kernel
theorem d_MD_cut_17 : decode b_MD_cut 17 = .ok (.imul, 1) := by decide +kernel
theorem d_MD_cut_18 : decode b_MD_cut 18 = .ok (.lushr, 1) := by decide +kernel
theorem d_MD_cut_19 : decode b_MD_cut 19 = .ok (.goto 4, 3) := by decide +kernel
theorem d_MD_cut_22 : decode b_MD_cut 22 = .ok (.lload_n 0, 1) := by decide +kernel
theorem d_MD_cut_23 : decode b_MD_cut 23 = .ok (.lreturn, 1) := by decide +kernel
theorem d_MD_bind_0 : decode b_MD_bind 0 = .ok (.aload_n 0, 1) := by decide +kernel
theorem d_MD_bind_1 : decode b_MD_bind 1 = .ok (.invokevirtual 109, 3) := by decide +kernel
theorem d_MD_bind_4 : decode b_MD_bind 4 = .ok (.ifCond .ne 5, 3) := by decide +kernel
theorem d_MD_bind_7 : decode b_MD_bind 7 = .ok (.iconst (-1), 1) := by decide +kernel
theorem d_MD_bind_8 : decode b_MD_bind 8 = .ok (.ireturn, 1) := by decide +kernel
theorem d_MD_bind_9 : decode b_MD_bind 9 = .ok (.aload_n 0, 1) := by decide +kernel
theorem d_MD_bind_10 : decode b_MD_bind 10 = .ok (.iconst 1, 1) := by decide +kernel
theorem d_MD_bind_11 : decode b_MD_bind 11 = .ok (.invokevirtual 113, 3) := by decide +kernel
theorem d_MD_bind_14 : decode b_MD_bind 14 = .ok (.iconst 0, 1) := by decide +kernel
theorem d_MD_bind_15 : decode b_MD_bind 15 = .ok (.istore_n 1, 1) := by decide +kernel
theorem d_MD_bind_16 : decode b_MD_bind 16 = .ok (.iload_n 1, 1) := by decide +kernel
theorem d_MD_bind_17 : decode b_MD_bind 17 = .ok (.aload_n 0, 1) := by decide +kernel
theorem d_MD_bind_18 : decode b_MD_bind 18 = .ok (.getfield 83, 3) := by decide +kernel
theorem d_MD_bind_21 : decode b_MD_bind 21 = .ok (.if_icmp .ge 113, 3) := by decide +kernel
theorem d_MD_bind_24 : decode b_MD_bind 24 = .ok (.aload_n 0, 1) := by decide +kernel
theorem d_MD_bind_25 : decode b_MD_bind 25 = .ok (.getfield 13, 3) := by decide +kernel
theorem d_MD_bind_28 : decode b_MD_bind 28 = .ok (.iload_n 1, 1) := by decide +kernel
theorem d_MD_bind_29 : decode b_MD_bind 29 = .ok (.iaload, 1) := by decide +kernel
theorem d_MD_bind_30 : decode b_MD_bind 30 = .ok (.istore_n 2, 1) := by decide +kernel
theorem d_MD_bind_31 : decode b_MD_bind 31 = .ok (.aload_n 0, 1) := by decide +kernel
theorem d_MD_bind_32 : decode b_MD_bind 32 = .ok (.getfield 38, 3) := by decide +kernel
theorem d_MD_bind_35 : decode b_MD_bind 35 = .ok (.iload_n 1, 1) := by decide +kernel
theorem d_MD_bind_36 : decode b_MD_bind 36 = .ok (.iload_n 2, 1) := by decide +kernel
theorem d_MD_bind_37 : decode b_MD_bind 37 = .ok (.bipush 6, 2) := by decide +kernel
theorem d_MD_bind_39 : decode b_MD_bind 39 = .ok (.if_icmp .ne 7, 3) := by decide +kernel
theorem d_MD_bind_42 : decode b_MD_bind 42 = .ok (.iconst 2, 1) := by decide +kernel
theorem d_MD_bind_43 : decode b_MD_bind 43 = .ok (.goto 4, 3) := by decide +kernel
theorem d_MD_bind_46 : decode b_MD_bind 46 = .ok (.iload_n 2, 1) := by decide +kernel
theorem d_MD_bind_47 : decode b_MD_bind 47 = .ok (.iastore, 1) := by decide +kernel
theorem d_MD_bind_48 : decode b_MD_bind 48 = .ok (.aload_n 0, 1) := by decide +kernel
theorem d_MD_bind_49 : decode b_MD_bind 49 = .ok (.getfield 41, 3) := by decide +kernel
theorem d_MD_bind_52 : decode b_MD_bind 52 = .ok (.iload_n 1, 1) := by decide +kernel
theorem d_MD_bind_53 : decode b_MD_bind 53 = .ok (.iload_n 2, 1) := by decide +kernel
theorem d_MD_bind_54 : decode b_MD_bind 54 = .ok (.ifCond .le 20, 3) := by decide +kernel
theorem d_MD_bind_57 : decode b_MD_bind 57 = .ok (.iload_n 2, 1) := by decide +kernel
theorem d_MD_bind_58 : decode b_MD_bind 58 = .ok (.iconst 4, 1) := by decide +kernel
theorem d_MD_bind_59 : decode b_MD_bind 59 = .ok (.if_icmp .ge 15, 3) := by decide +kernel
theorem d_MD_bind_62 : decode b_MD_bind 62 = .ok (.aload_n 0, 1) := by decide +kernel
theorem d_MD_bind_63 : decode b_MD_bind 63 = .ok (.getfield 17, 3) := by decide +kernel
theorem d_MD_bind_66 : decode b_MD_bind 66 = .ok (.iload_n 1, 1) := by decide +kernel
theorem d_MD_bind_67 : decode b_MD_bind 67 = .ok (.laload, 1) := by decide +kernel
theorem d_MD_bind_68 : decode b_MD_bind 68 = .ok (.invokestatic 117, 3) := by decide +kernel
theorem d_MD_bind_71 : decode b_MD_bind 71 = .ok (.goto 19, 3) := by decide +kernel
theorem d_MD_bind_74 : decode b_MD_bind 74 = .ok (.iload_n 2, 1) := by decide +kernel
theorem d_MD_bind_75 : decode b_MD_bind 75 = .ok (.bipush 6, 2) := by decide +kernel
theorem d_MD_bind_77 : decode b_MD_bind 77 = .ok (.if_icmp .ne 7, 3) := by decide +kernel
theorem d_MD_bind_80 : decode b_MD_bind 80 = .ok (.lconst 0, 1) := by decide +kernel
theorem d_MD_bind_81 : decode b_MD_bind 81 = .ok (.goto 9, 3) := by decide +kernel
theorem d_MD_bind_84 : decode b_MD_bind 84 = .ok (.aload_n 0, 1) := by decide +kernel
theorem d_MD_bind_85 : decode b_MD_bind 85 = .ok (.getfield 17, 3) := by decide +kernel
theorem d_MD_bind_88 : decode b_MD_bind 88 = .ok (.iload_n 1, 1) := by decide +kernel
theorem d_MD_bind_89 : decode b_MD_bind 89 = .ok (.laload, 1) := by decide +kernel
theorem d_MD_bind_90 : decode b_MD_bind 90 = .ok (.lastore, 1) := by decide +kernel
theorem d_MD_bind_91 : decode b_MD_bind 91 = .ok (.iload_n 2, 1) := by decide +kernel
theorem d_MD_bind_92 : decode b_MD_bind 92 = .ok (.ifCond .ne 36, 3) := by decide +kernel
theorem d_MD_bind_95 : decode b_MD_bind 95 = .ok (.aload_n 0, 1) := by decide +kernel
theorem d_MD_bind_96 : decode b_MD_bind 96 = .ok (.getfield 38, 3) := by decide +kernel
theorem d_MD_bind_99 : decode b_MD_bind 99 = .ok (.iload_n 1, 1) := by decide +kernel
theorem d_MD_bind_100 : decode b_MD_bind 100 = .ok (.aload_n 0, 1) := by decide +kernel
theorem d_MD_bind_101 : decode b_MD_bind 101 = .ok (.iload_n 1, 1) := by decide +kernel
theorem d_MD_bind_102 : decode b_MD_bind 102 = .ok (.invokevirtual 121, 3) := by decide +kernel
theorem d_MD_bind_105 : decode b_MD_bind 105 = .ok (.iastore, 1) := by decide +kernel
theorem d_MD_bind_106 : decode b_MD_bind 106 = .ok (.aload_n 0, 1) := by decide +kernel
theorem d_MD_bind_107 : decode b_MD_bind 107 = .ok (.getfield 41, 3) := by decide +kernel
theorem d_MD_bind_110 : decode b_MD_bind 110 = .ok (.iload_n 1, 1) := by decide +kernel
theorem d_MD_bind_111 : decode b_MD_bind 111 = .ok (.aload_n 0, 1) := by decide +kernel
theorem d_MD_bind_112 : decode b_MD_bind 112 = .ok (.getfield 105, 3) := by decide +kernel
theorem d_MD_bind_115 : decode b_MD_bind 115 = .ok (.lastore, 1) := by decide +kernel
theorem d_MD_bind_116 : decode b_MD_bind 116 = .ok (.aload_n 0, 1) := by decide +kernel
theorem d_MD_bind_117 : decode b_MD_bind 117 = .ok (.getfield 94, 3) := by decide +kernel
theorem d_MD_bind_120 : decode b_MD_bind 120 = .ok (.ifCond .ne 8, 3) := by decide +kernel
theorem d_MD_bind_123 : decode b_MD_bind 123 = .ok (.bipush (-2), 2) := by decide +kernel
theorem d_MD_bind_125 : decode b_MD_bind 125 = .ok (.iload_n 1, 1) := by decide +kernel
theorem d_MD_bind_126 : decode b_MD_bind 126 = .ok (.isub, 1) := by decide +kernel
theorem d_MD_bind_127 : decode b_MD_bind 127 = .ok (.ireturn, 1) := by decide +kernel
theorem d_MD_bind_128 : decode b_MD_bind 128 = .ok (.iinc 1 1, 3) := by decide +kernel
theorem d_MD_bind_131 : decode b_MD_bind 131 = .ok (.goto (-115), 3) := by decide +kernel
theorem d_MD_bind_134 : decode b_MD_bind 134 = .ok (.aload_n 0, 1) := by decide +kernel
theorem d_MD_bind_135 : decode b_MD_bind 135 = .ok (.aload_n 0, 1) := by decide +kernel
theorem d_MD_bind_136 : decode b_MD_bind 136 = .ok (.getfield 83, 3) := by decide +kernel
theorem d_MD_bind_139 : decode b_MD_bind 139 = .ok (.putfield 124, 3) := by decide +kernel
theorem d_MD_bind_142 : decode b_MD_bind 142 = .ok (.aload_n 0, 1) := by decide +kernel
theorem d_MD_bind_143 : decode b_MD_bind 143 = .ok (.iconst 0, 1) := by decide +kernel
theorem d_MD_bind_144 : decode b_MD_bind 144 = .ok (.putfield 83, 3) := by decide +kernel
theorem d_MD_bind_147 : decode b_MD_bind 147 = .ok (.aload_n 0, 1) := by decide +kernel
theorem d_MD_bind_148 : decode b_MD_bind 148 = .ok (.invokevirtual 127, 3) := by decide +kernel
theorem d_MD_bind_151 : decode b_MD_bind 151 = .ok (.aload_n 0, 1) := by decide +kernel
theorem d_MD_bind_152 : decode b_MD_bind 152 = .ok (.getfield 53, 3) := by decide +kernel
