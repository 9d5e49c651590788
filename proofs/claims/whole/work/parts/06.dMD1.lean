theorem d_MD_bind_155 : decode b_MD_bind 155 = .ok (.ireturn, 1) := by decide +kernel
theorem d_MD_become_0 : decode b_MD_become 0 = .ok (.aload_n 0, 1) := by decide +kernel
theorem d_MD_become_1 : decode b_MD_become 1 = .ok (.aload_n 0, 1) := by decide +kernel
theorem d_MD_become_2 : decode b_MD_become 2 = .ok (.getfield 124, 3) := by decide +kernel
theorem d_MD_become_5 : decode b_MD_become 5 = .ok (.putfield 53, 3) := by decide +kernel
theorem d_MD_become_8 : decode b_MD_become 8 = .ok (.iconst 0, 1) := by decide +kernel
theorem d_MD_become_9 : decode b_MD_become 9 = .ok (.istore_n 1, 1) := by decide +kernel
theorem d_MD_become_10 : decode b_MD_become 10 = .ok (.iload_n 1, 1) := by decide +kernel
theorem d_MD_become_11 : decode b_MD_become 11 = .ok (.aload_n 0, 1) := by decide +kernel
theorem d_MD_become_12 : decode b_MD_become 12 = .ok (.getfield 53, 3) := by decide +kernel
theorem d_MD_become_15 : decode b_MD_become 15 = .ok (.if_icmp .ge 33, 3) := by decide +kernel
theorem d_MD_become_18 : decode b_MD_become 18 = .ok (.aload_n 0, 1) := by decide +kernel
theorem d_MD_become_19 : decode b_MD_become 19 = .ok (.getfield 20, 3) := by decide +kernel
theorem d_MD_become_22 : decode b_MD_become 22 = .ok (.iload_n 1, 1) := by decide +kernel
theorem d_MD_become_23 : decode b_MD_become 23 = .ok (.aload_n 0, 1) := by decide +kernel
theorem d_MD_become_24 : decode b_MD_become 24 = .ok (.getfield 38, 3) := by decide +kernel
theorem d_MD_become_27 : decode b_MD_become 27 = .ok (.iload_n 1, 1) := by decide +kernel
theorem d_MD_become_28 : decode b_MD_become 28 = .ok (.iaload, 1) := by decide +kernel
theorem d_MD_become_29 : decode b_MD_become 29 = .ok (.iastore, 1) := by decide +kernel
theorem d_MD_become_30 : decode b_MD_become 30 = .ok (.aload_n 0, 1) := by decide +kernel
theorem d_MD_become_31 : decode b_MD_become 31 = .ok (.getfield 23, 3) := by decide +kernel
theorem d_MD_become_34 : decode b_MD_become 34 = .ok (.iload_n 1, 1) := by decide +kernel
theorem d_MD_become_35 : decode b_MD_become 35 = .ok (.aload_n 0, 1) := by decide +kernel
theorem d_MD_become_36 : decode b_MD_become 36 = .ok (.getfield 41, 3) := by decide +kernel
theorem d_MD_become_39 : decode b_MD_become 39 = .ok (.iload_n 1, 1) := by decide +kernel
theorem d_MD_become_40 : decode b_MD_become 40 = .ok (.laload, 1) := by decide +kernel
theorem d_MD_become_41 : decode b_MD_become 41 = .ok (.lastore, 1) := by decide +kernel
theorem d_MD_become_42 : decode b_MD_become 42 = .ok (.iinc 1 1, 3) := by decide +kernel
theorem d_MD_become_45 : decode b_MD_become 45 = .ok (.goto (-35), 3) := by decide +kernel
theorem d_MD_become_48 : decode b_MD_become 48 = .ok (.aload_n 0, 1) := by decide +kernel
theorem d_MD_become_49 : decode b_MD_become 49 = .ok (.iconst 0, 1) := by decide +kernel
theorem d_MD_become_50 : decode b_MD_become 50 = .ok (.invokevirtual 113, 3) := by decide +kernel
theorem d_MD_become_53 : decode b_MD_become 53 = .ok (.return_, 1) := by decide +kernel
theorem d_MD_nodes_0 : decode b_MD_nodes 0 = .ok (.aload_n 0, 1) := by decide +kernel
theorem d_MD_nodes_1 : decode b_MD_nodes 1 = .ok (.getfield 53, 3) := by decide +kernel
theorem d_MD_nodes_4 : decode b_MD_nodes 4 = .ok (.ireturn, 1) := by decide +kernel
theorem d_MD_node_0 : decode b_MD_node 0 = .ok (.iload_n 1, 1) := by decide +kernel
theorem d_MD_node_1 : decode b_MD_node 1 = .ok (.ifCond .lt 20, 3) := by decide +kernel
theorem d_MD_node_4 : decode b_MD_node 4 = .ok (.iload_n 1, 1) := by decide +kernel
theorem d_MD_node_5 : decode b_MD_node 5 = .ok (.aload_n 0, 1) := by decide +kernel
theorem d_MD_node_6 : decode b_MD_node 6 = .ok (.getfield 53, 3) := by decide +kernel
theorem d_MD_node_9 : decode b_MD_node 9 = .ok (.if_icmp .ge 12, 3) := by decide +kernel
theorem d_MD_node_12 : decode b_MD_node 12 = .ok (.iload_n 2, 1) := by decide +kernel
theorem d_MD_node_13 : decode b_MD_node 13 = .ok (.ifCond .lt 8, 3) := by decide +kernel
theorem d_MD_node_16 : decode b_MD_node 16 = .ok (.iload_n 2, 1) := by decide +kernel
theorem d_MD_node_17 : decode b_MD_node 17 = .ok (.iconst 2, 1) := by decide +kernel
theorem d_MD_node_18 : decode b_MD_node 18 = .ok (.if_icmp .le 7, 3) := by decide +kernel
theorem d_MD_node_21 : decode b_MD_node 21 = .ok (.ldc2_w 130, 3) := by decide +kernel
theorem d_MD_node_24 : decode b_MD_node 24 = .ok (.lreturn, 1) := by decide +kernel
theorem d_MD_node_25 : decode b_MD_node 25 = .ok (.aload_n 0, 1) := by decide +kernel
theorem d_MD_node_26 : decode b_MD_node 26 = .ok (.iconst 0, 1) := by decide +kernel
theorem d_MD_node_27 : decode b_MD_node 27 = .ok (.invokevirtual 113, 3) := by decide +kernel
theorem d_MD_node_30 : decode b_MD_node 30 = .ok (.iload_n 2, 1) := by decide +kernel
theorem d_MD_node_31 : decode b_MD_node 31 = .ok (.ifCond .ne 13, 3) := by decide +kernel
theorem d_MD_node_34 : decode b_MD_node 34 = .ok (.aload_n 0, 1) := by decide +kernel
theorem d_MD_node_35 : decode b_MD_node 35 = .ok (.getfield 20, 3) := by decide +kernel
theorem d_MD_node_38 : decode b_MD_node 38 = .ok (.iload_n 1, 1) := by decide +kernel
theorem d_MD_node_39 : decode b_MD_node 39 = .ok (.iaload, 1) := by decide +kernel
theorem d_MD_node_40 : decode b_MD_node 40 = .ok (.i2l, 1) := by decide +kernel
theorem d_MD_node_41 : decode b_MD_node 41 = .ok (.goto 24, 3) := by decide +kernel
theorem d_MD_node_44 : decode b_MD_node 44 = .ok (.iload_n 2, 1) := by decide +kernel
theorem d_MD_node_45 : decode b_MD_node 45 = .ok (.iconst 1, 1) := by decide +kernel
theorem d_MD_node_46 : decode b_MD_node 46 = .ok (.if_icmp .ne 12, 3) := by decide +kernel
theorem d_MD_node_49 : decode b_MD_node 49 = .ok (.aload_n 0, 1) := by decide +kernel
theorem d_MD_node_50 : decode b_MD_node 50 = .ok (.getfield 23, 3) := by decide +kernel
theorem d_MD_node_53 : decode b_MD_node 53 = .ok (.iload_n 1, 1) := by decide +kernel
theorem d_MD_node_54 : decode b_MD_node 54 = .ok (.laload, 1) := by decide +kernel
theorem d_MD_node_55 : decode b_MD_node 55 = .ok (.goto 10, 3) := by decide +kernel
theorem d_MD_node_58 : decode b_MD_node 58 = .ok (.aload_n 0, 1) := by decide +kernel
theorem d_MD_node_59 : decode b_MD_node 59 = .ok (.getfield 44, 3) := by decide +kernel
theorem d_MD_node_62 : decode b_MD_node 62 = .ok (.iload_n 1, 1) := by decide +kernel
theorem d_MD_node_63 : decode b_MD_node 63 = .ok (.iaload, 1) := by decide +kernel
theorem d_MD_node_64 : decode b_MD_node 64 = .ok (.i2l, 1) := by decide +kernel
theorem d_MD_node_65 : decode b_MD_node 65 = .ok (.lreturn, 1) := by decide +kernel
theorem d_MD_under_0 : decode b_MD_under 0 = .ok (.iconst 0, 1) := by decide +kernel
theorem d_MD_under_1 : decode b_MD_under 1 = .ok (.istore_n 3, 1) := by decide +kernel
theorem d_MD_under_2 : decode b_MD_under 2 = .ok (.iload_n 1, 1) := by decide +kernel
theorem d_MD_under_3 : decode b_MD_under 3 = .ok (.istore 4, 2) := by decide +kernel
theorem d_MD_under_5 : decode b_MD_under 5 = .ok (.iload 4, 2) := by decide +kernel
theorem d_MD_under_7 : decode b_MD_under 7 = .ok (.iload_n 2, 1) := by decide +kernel
theorem d_MD_under_8 : decode b_MD_under 8 = .ok (.if_icmp .eq 51, 3) := by decide +kernel
theorem d_MD_under_11 : decode b_MD_under 11 = .ok (.aload_n 0, 1) := by decide +kernel
theorem d_MD_under_12 : decode b_MD_under 12 = .ok (.getfield 47, 3) := by decide +kernel
theorem d_MD_under_15 : decode b_MD_under 15 = .ok (.iload 4, 2) := by decide +kernel
theorem d_MD_under_17 : decode b_MD_under 17 = .ok (.iaload, 1) := by decide +kernel
theorem d_MD_under_18 : decode b_MD_under 18 = .ok (.istore 5, 2) := by decide +kernel
theorem d_MD_under_20 : decode b_MD_under 20 = .ok (.iload_n 3, 1) := by decide +kernel
theorem d_MD_under_21 : decode b_MD_under 21 = .ok (.aload_n 0, 1) := by decide +kernel
theorem d_MD_under_22 : decode b_MD_under 22 = .ok (.getfield 20, 3) := by decide +kernel
theorem d_MD_under_25 : decode b_MD_under 25 = .ok (.iload 5, 2) := by decide +kernel
theorem d_MD_under_27 : decode b_MD_under 27 = .ok (.iaload, 1) := by decide +kernel
theorem d_MD_under_28 : decode b_MD_under 28 = .ok (.invokestatic 98, 3) := by decide +kernel
theorem d_MD_under_31 : decode b_MD_under 31 = .ok (.ifCond .eq 18, 3) := by decide +kernel
theorem d_MD_under_34 : decode b_MD_under 34 = .ok (.iload 4, 2) := by decide +kernel
theorem d_MD_under_36 : decode b_MD_under 36 = .ok (.aload_n 0, 1) := by decide +kernel
theorem d_MD_under_37 : decode b_MD_under 37 = .ok (.iload 5, 2) := by decide +kernel
theorem d_MD_under_39 : decode b_MD_under 39 = .ok (.invokevirtual 101, 3) := by decide +kernel
theorem d_MD_under_42 : decode b_MD_under 42 = .ok (.if_icmp .ne 7, 3) := by decide +kernel
theorem d_MD_under_45 : decode b_MD_under 45 = .ok (.iconst 1, 1) := by decide +kernel
theorem d_MD_under_46 : decode b_MD_under 46 = .ok (.goto 4, 3) := by decide +kernel
theorem d_MD_under_49 : decode b_MD_under 49 = .ok (.iconst 0, 1) := by decide +kernel
theorem d_MD_under_50 : decode b_MD_under 50 = .ok (.iadd, 1) := by decide +kernel
theorem d_MD_under_51 : decode b_MD_under 51 = .ok (.istore_n 3, 1) := by decide +kernel
theorem d_MD_under_52 : decode b_MD_under 52 = .ok (.iload 5, 2) := by decide +kernel
theorem d_MD_under_54 : decode b_MD_under 54 = .ok (.istore 4, 2) := by decide +kernel
theorem d_MD_under_56 : decode b_MD_under 56 = .ok (.goto (-51), 3) := by decide +kernel
theorem d_MD_under_59 : decode b_MD_under 59 = .ok (.iload_n 3, 1) := by decide +kernel
theorem d_MD_under_60 : decode b_MD_under 60 = .ok (.ireturn, 1) := by decide +kernel
theorem d_MD_uses_0 : decode b_MD_uses 0 = .ok (.iload_n 1, 1) := by decide +kernel
theorem d_MD_uses_1 : decode b_MD_uses 1 = .ok (.ifCond .lt 23, 3) := by decide +kernel
theorem d_MD_uses_4 : decode b_MD_uses 4 = .ok (.iload_n 1, 1) := by decide +kernel
theorem d_MD_uses_5 : decode b_MD_uses 5 = .ok (.aload_n 0, 1) := by decide +kernel
theorem d_MD_uses_6 : decode b_MD_uses 6 = .ok (.getfield 53, 3) := by decide +kernel
theorem d_MD_uses_9 : decode b_MD_uses 9 = .ok (.if_icmp .ge 15, 3) := by decide +kernel
theorem d_MD_uses_12 : decode b_MD_uses 12 = .ok (.aload_n 0, 1) := by decide +kernel
theorem d_MD_uses_13 : decode b_MD_uses 13 = .ok (.getfield 20, 3) := by decide +kernel
theorem d_MD_uses_16 : decode b_MD_uses 16 = .ok (.iload_n 1, 1) := by decide +kernel
theorem d_MD_uses_17 : decode b_MD_uses 17 = .ok (.iaload, 1) := by decide +kernel
theorem d_MD_uses_18 : decode b_MD_uses 18 = .ok (.invokestatic 98, 3) := by decide +kernel
theorem d_MD_uses_21 : decode b_MD_uses 21 = .ok (.ifCond .ne 5, 3) := by decide +kernel
theorem d_MD_uses_24 : decode b_MD_uses 24 = .ok (.iconst (-1), 1) := by decide +kernel
theorem d_MD_uses_25 : decode b_MD_uses 25 = .ok (.ireturn, 1) := by decide +kernel
theorem d_MD_uses_26 : decode b_MD_uses 26 = .ok (.aload_n 0, 1) := by decide +kernel
theorem d_MD_uses_27 : decode b_MD_uses 27 = .ok (.iconst 0, 1) := by decide +kernel
theorem d_MD_uses_28 : decode b_MD_uses 28 = .ok (.invokevirtual 113, 3) := by decide +kernel
theorem d_MD_uses_31 : decode b_MD_uses 31 = .ok (.iconst 0, 1) := by decide +kernel
theorem d_MD_uses_32 : decode b_MD_uses 32 = .ok (.istore_n 2, 1) := by decide +kernel
theorem d_MD_uses_33 : decode b_MD_uses 33 = .ok (.aload_n 0, 1) := by decide +kernel
theorem d_MD_uses_34 : decode b_MD_uses 34 = .ok (.iload_n 1, 1) := by decide +kernel
theorem d_MD_uses_35 : decode b_MD_uses 35 = .ok (.invokevirtual 101, 3) := by decide +kernel
theorem d_MD_uses_38 : decode b_MD_uses 38 = .ok (.istore_n 3, 1) := by decide +kernel
theorem d_MD_uses_39 : decode b_MD_uses 39 = .ok (.iload_n 3, 1) := by decide +kernel
theorem d_MD_uses_40 : decode b_MD_uses 40 = .ok (.iload_n 1, 1) := by decide +kernel
theorem d_MD_uses_41 : decode b_MD_uses 41 = .ok (.aload_n 0, 1) := by decide +kernel
theorem d_MD_uses_42 : decode b_MD_uses 42 = .ok (.getfield 44, 3) := by decide +kernel
theorem d_MD_uses_45 : decode b_MD_uses 45 = .ok (.iload_n 1, 1) := by decide +kernel
theorem d_MD_uses_46 : decode b_MD_uses 46 = .ok (.iaload, 1) := by decide +kernel
theorem d_MD_uses_47 : decode b_MD_uses 47 = .ok (.iadd, 1) := by decide +kernel
theorem d_MD_uses_48 : decode b_MD_uses 48 = .ok (.if_icmp .ge 47, 3) := by decide +kernel
theorem d_MD_uses_51 : decode b_MD_uses 51 = .ok (.iload_n 2, 1) := by decide +kernel
theorem d_MD_uses_52 : decode b_MD_uses 52 = .ok (.aload_n 0, 1) := by decide +kernel
theorem d_MD_uses_53 : decode b_MD_uses 53 = .ok (.getfield 20, 3) := by decide +kernel
theorem d_MD_uses_56 : decode b_MD_uses 56 = .ok (.iload_n 3, 1) := by decide +kernel
theorem d_MD_uses_57 : decode b_MD_uses 57 = .ok (.iaload, 1) := by decide +kernel
theorem d_MD_uses_58 : decode b_MD_uses 58 = .ok (.ifCond .ne 28, 3) := by decide +kernel
theorem d_MD_uses_61 : decode b_MD_uses 61 = .ok (.aload_n 0, 1) := by decide +kernel
theorem d_MD_uses_62 : decode b_MD_uses 62 = .ok (.getfield 23, 3) := by decide +kernel
theorem d_MD_uses_65 : decode b_MD_uses 65 = .ok (.iload_n 3, 1) := by decide +kernel
theorem d_MD_uses_66 : decode b_MD_uses 66 = .ok (.laload, 1) := by decide +kernel
theorem d_MD_uses_67 : decode b_MD_uses 67 = .ok (.aload_n 0, 1) := by decide +kernel
theorem d_MD_uses_68 : decode b_MD_uses 68 = .ok (.iload_n 3, 1) := by decide +kernel
theorem d_MD_uses_69 : decode b_MD_uses 69 = .ok (.aload_n 0, 1) := by decide +kernel
theorem d_MD_uses_70 : decode b_MD_uses 70 = .ok (.iload_n 1, 1) := by decide +kernel
theorem d_MD_uses_71 : decode b_MD_uses 71 = .ok (.invokevirtual 101, 3) := by decide +kernel
theorem d_MD_uses_74 : decode b_MD_uses 74 = .ok (.invokevirtual 132, 3) := by decide +kernel
theorem d_MD_uses_77 : decode b_MD_uses 77 = .ok (.i2l, 1) := by decide +kernel
theorem d_MD_uses_78 : decode b_MD_uses 78 = .ok (.lcmp, 1) := by decide +kernel
theorem d_MD_uses_79 : decode b_MD_uses 79 = .ok (.ifCond .ne 7, 3) := by decide +kernel
theorem d_MD_uses_82 : decode b_MD_uses 82 = .ok (.iconst 1, 1) := by decide +kernel
theorem d_MD_uses_83 : decode b_MD_uses 83 = .ok (.goto 4, 3) := by decide +kernel
theorem d_MD_uses_86 : decode b_MD_uses 86 = .ok (.iconst 0, 1) := by decide +kernel
theorem d_MD_uses_87 : decode b_MD_uses 87 = .ok (.iadd, 1) := by decide +kernel
theorem d_MD_uses_88 : decode b_MD_uses 88 = .ok (.istore_n 2, 1) := by decide +kernel
theorem d_MD_uses_89 : decode b_MD_uses 89 = .ok (.iinc 3 1, 3) := by decide +kernel
theorem d_MD_uses_92 : decode b_MD_uses 92 = .ok (.goto (-53), 3) := by decide +kernel
theorem d_MD_uses_95 : decode b_MD_uses 95 = .ok (.iload_n 2, 1) := by decide +kernel
theorem d_MD_uses_96 : decode b_MD_uses 96 = .ok (.ireturn, 1) := by decide +kernel
theorem d_MD_draft_0 : decode b_MD_draft 0 = .ok (.aload_n 0, 1) := by decide +kernel
theorem d_MD_draft_1 : decode b_MD_draft 1 = .ok (.getfield 38, 3) := by decide +kernel
theorem d_MD_draft_4 : decode b_MD_draft 4 = .ok (.aload_n 0, 1) := by decide +kernel
theorem d_MD_draft_5 : decode b_MD_draft 5 = .ok (.getfield 124, 3) := by decide +kernel
theorem d_MD_draft_8 : decode b_MD_draft 8 = .ok (.iload_n 1, 1) := by decide +kernel
theorem d_MD_draft_9 : decode b_MD_draft 9 = .ok (.iastore, 1) := by decide +kernel
theorem d_MD_draft_10 : decode b_MD_draft 10 = .ok (.aload_n 0, 1) := by decide +kernel
theorem d_MD_draft_11 : decode b_MD_draft 11 = .ok (.getfield 41, 3) := by decide +kernel
theorem d_MD_draft_14 : decode b_MD_draft 14 = .ok (.aload_n 0, 1) := by decide +kernel
theorem d_MD_draft_15 : decode b_MD_draft 15 = .ok (.getfield 124, 3) := by decide +kernel
theorem d_MD_draft_18 : decode b_MD_draft 18 = .ok (.lload_n 2, 1) := by decide +kernel
theorem d_MD_draft_19 : decode b_MD_draft 19 = .ok (.lastore, 1) := by decide +kernel
theorem d_MD_draft_20 : decode b_MD_draft 20 = .ok (.aload_n 0, 1) := by decide +kernel
theorem d_MD_draft_21 : decode b_MD_draft 21 = .ok (.dup, 1) := by decide +kernel
theorem d_MD_draft_22 : decode b_MD_draft 22 = .ok (.getfield 124, 3) := by decide +kernel
theorem d_MD_draft_25 : decode b_MD_draft 25 = .ok (.iconst 1, 1) := by decide +kernel
theorem d_MD_draft_26 : decode b_MD_draft 26 = .ok (.iadd, 1) := by decide +kernel
theorem d_MD_draft_27 : decode b_MD_draft 27 = .ok (.putfield 124, 3) := by decide +kernel
theorem d_MD_draft_30 : decode b_MD_draft 30 = .ok (.return_, 1) := by decide +kernel
theorem d_MD_contract_0 : decode b_MD_contract 0 = .ok (.iload_n 1, 1) := by decide +kernel
theorem d_MD_contract_1 : decode b_MD_contract 1 = .ok (.ifCond .lt 11, 3) := by decide +kernel
theorem d_MD_contract_4 : decode b_MD_contract 4 = .ok (.iload_n 1, 1) := by decide +kernel
theorem d_MD_contract_5 : decode b_MD_contract 5 = .ok (.aload_n 0, 1) := by decide +kernel
theorem d_MD_contract_6 : decode b_MD_contract 6 = .ok (.getfield 53, 3) := by decide +kernel
theorem d_MD_contract_9 : decode b_MD_contract 9 = .ok (.if_icmp .lt 5, 3) := by decide +kernel
theorem d_MD_contract_12 : decode b_MD_contract 12 = .ok (.iconst (-1), 1) := by decide +kernel
theorem d_MD_contract_13 : decode b_MD_contract 13 = .ok (.ireturn, 1) := by decide +kernel
theorem d_MD_contract_14 : decode b_MD_contract 14 = .ok (.aload_n 0, 1) := by decide +kernel
theorem d_MD_contract_15 : decode b_MD_contract 15 = .ok (.iconst 0, 1) := by decide +kernel
theorem d_MD_contract_16 : decode b_MD_contract 16 = .ok (.invokevirtual 113, 3) := by decide +kernel
theorem d_MD_contract_19 : decode b_MD_contract 19 = .ok (.aload_n 0, 1) := by decide +kernel
theorem d_MD_contract_20 : decode b_MD_contract 20 = .ok (.getfield 20, 3) := by decide +kernel
theorem d_MD_contract_23 : decode b_MD_contract 23 = .ok (.iload_n 1, 1) := by decide +kernel
theorem d_MD_contract_24 : decode b_MD_contract 24 = .ok (.iaload, 1) := by decide +kernel
theorem d_MD_contract_25 : decode b_MD_contract 25 = .ok (.iconst 3, 1) := by decide +kernel
theorem d_MD_contract_26 : decode b_MD_contract 26 = .ok (.if_icmp .ne 7, 3) := by decide +kernel
theorem d_MD_contract_29 : decode b_MD_contract 29 = .ok (.iconst 1, 1) := by decide +kernel
theorem d_MD_contract_30 : decode b_MD_contract 30 = .ok (.goto 4, 3) := by decide +kernel
theorem d_MD_contract_33 : decode b_MD_contract 33 = .ok (.iconst 0, 1) := by decide +kernel
theorem d_MD_contract_34 : decode b_MD_contract 34 = .ok (.istore_n 2, 1) := by decide +kernel
theorem d_MD_contract_35 : decode b_MD_contract 35 = .ok (.iload_n 2, 1) := by decide +kernel
theorem d_MD_contract_36 : decode b_MD_contract 36 = .ok (.ifCond .ne 27, 3) := by decide +kernel
theorem d_MD_contract_39 : decode b_MD_contract 39 = .ok (.aload_n 0, 1) := by decide +kernel
theorem d_MD_contract_40 : decode b_MD_contract 40 = .ok (.getfield 20, 3) := by decide +kernel
theorem d_MD_contract_43 : decode b_MD_contract 43 = .ok (.iload_n 1, 1) := by decide +kernel
theorem d_MD_contract_44 : decode b_MD_contract 44 = .ok (.iaload, 1) := by decide +kernel
theorem d_MD_contract_45 : decode b_MD_contract 45 = .ok (.iconst 4, 1) := by decide +kernel
theorem d_MD_contract_46 : decode b_MD_contract 46 = .ok (.if_icmp .ne 15, 3) := by decide +kernel
theorem d_MD_contract_49 : decode b_MD_contract 49 = .ok (.aload_n 0, 1) := by decide +kernel
theorem d_MD_contract_50 : decode b_MD_contract 50 = .ok (.getfield 20, 3) := by decide +kernel
theorem d_MD_contract_53 : decode b_MD_contract 53 = .ok (.iload_n 1, 1) := by decide +kernel
theorem d_MD_contract_54 : decode b_MD_contract 54 = .ok (.iconst 1, 1) := by decide +kernel
theorem d_MD_contract_55 : decode b_MD_contract 55 = .ok (.iadd, 1) := by decide +kernel
theorem d_MD_contract_56 : decode b_MD_contract 56 = .ok (.iaload, 1) := by decide +kernel
theorem d_MD_contract_57 : decode b_MD_contract 57 = .ok (.iconst 1, 1) := by decide +kernel
theorem d_MD_contract_58 : decode b_MD_contract 58 = .ok (.if_icmp .eq 5, 3) := by decide +kernel
theorem d_MD_contract_61 : decode b_MD_contract 61 = .ok (.iconst (-1), 1) := by decide +kernel
theorem d_MD_contract_62 : decode b_MD_contract 62 = .ok (.ireturn, 1) := by decide +kernel
theorem d_MD_contract_63 : decode b_MD_contract 63 = .ok (.iload_n 2, 1) := by decide +kernel
theorem d_MD_contract_64 : decode b_MD_contract 64 = .ok (.ifCond .eq 7, 3) := by decide +kernel
theorem d_MD_contract_67 : decode b_MD_contract 67 = .ok (.iload_n 1, 1) := by decide +kernel
theorem d_MD_contract_68 : decode b_MD_contract 68 = .ok (.goto 6, 3) := by decide +kernel
theorem d_MD_contract_71 : decode b_MD_contract 71 = .ok (.iload_n 1, 1) := by decide +kernel
theorem d_MD_contract_72 : decode b_MD_contract 72 = .ok (.iconst 1, 1) := by decide +kernel
theorem d_MD_contract_73 : decode b_MD_contract 73 = .ok (.iadd, 1) := by decide +kernel
theorem d_MD_contract_74 : decode b_MD_contract 74 = .ok (.istore_n 3, 1) := by decide +kernel
theorem d_MD_contract_75 : decode b_MD_contract 75 = .ok (.aload_n 0, 1) := by decide +kernel
theorem d_MD_contract_76 : decode b_MD_contract 76 = .ok (.iload_n 3, 1) := by decide +kernel
theorem d_MD_contract_77 : decode b_MD_contract 77 = .ok (.invokevirtual 101, 3) := by decide +kernel
theorem d_MD_contract_80 : decode b_MD_contract 80 = .ok (.istore 4, 2) := by decide +kernel
theorem d_MD_contract_82 : decode b_MD_contract 82 = .ok (.iload_n 2, 1) := by decide +kernel
theorem d_MD_contract_83 : decode b_MD_contract 83 = .ok (.ifCond .eq 9, 3) := by decide +kernel
theorem d_MD_contract_86 : decode b_MD_contract 86 = .ok (.iload_n 1, 1) := by decide +kernel
theorem d_MD_contract_87 : decode b_MD_contract 87 = .ok (.iconst 1, 1) := by decide +kernel
theorem d_MD_contract_88 : decode b_MD_contract 88 = .ok (.iadd, 1) := by decide +kernel
theorem d_MD_contract_89 : decode b_MD_contract 89 = .ok (.goto 8, 3) := by decide +kernel
theorem d_MD_contract_92 : decode b_MD_contract 92 = .ok (.aload_n 0, 1) := by decide +kernel
theorem d_MD_contract_93 : decode b_MD_contract 93 = .ok (.iload_n 1, 1) := by decide +kernel
theorem d_MD_contract_94 : decode b_MD_contract 94 = .ok (.invokevirtual 101, 3) := by decide +kernel
theorem d_MD_contract_97 : decode b_MD_contract 97 = .ok (.istore 5, 2) := by decide +kernel
theorem d_MD_contract_99 : decode b_MD_contract 99 = .ok (.aload_n 0, 1) := by decide +kernel
theorem d_MD_contract_100 : decode b_MD_contract 100 = .ok (.iload_n 3, 1) := by decide +kernel
theorem d_MD_contract_101 : decode b_MD_contract 101 = .ok (.invokevirtual 136, 3) := by decide +kernel
theorem d_MD_contract_104 : decode b_MD_contract 104 = .ok (.istore 6, 2) := by decide +kernel
theorem d_MD_contract_106 : decode b_MD_contract 106 = .ok (.aload_n 0, 1) := by decide +kernel
theorem d_MD_contract_107 : decode b_MD_contract 107 = .ok (.getfield 53, 3) := by decide +kernel
theorem d_MD_contract_110 : decode b_MD_contract 110 = .ok (.aload_n 0, 1) := by decide +kernel
theorem d_MD_contract_111 : decode b_MD_contract 111 = .ok (.getfield 44, 3) := by decide +kernel
theorem d_MD_contract_114 : decode b_MD_contract 114 = .ok (.iload_n 1, 1) := by decide +kernel
theorem d_MD_contract_115 : decode b_MD_contract 115 = .ok (.iaload, 1) := by decide +kernel
theorem d_MD_contract_116 : decode b_MD_contract 116 = .ok (.isub, 1) := by decide +kernel
theorem d_MD_contract_117 : decode b_MD_contract 117 = .ok (.aload_n 0, 1) := by decide +kernel
theorem d_MD_contract_118 : decode b_MD_contract 118 = .ok (.getfield 44, 3) := by decide +kernel
theorem d_MD_contract_121 : decode b_MD_contract 121 = .ok (.iload 4, 2) := by decide +kernel
theorem d_MD_contract_123 : decode b_MD_contract 123 = .ok (.iaload, 1) := by decide +kernel
theorem d_MD_contract_124 : decode b_MD_contract 124 = .ok (.iadd, 1) := by decide +kernel
theorem d_MD_contract_125 : decode b_MD_contract 125 = .ok (.iload 6, 2) := by decide +kernel
theorem d_MD_contract_127 : decode b_MD_contract 127 = .ok (.aload_n 0, 1) := by decide +kernel
theorem d_MD_contract_128 : decode b_MD_contract 128 = .ok (.getfield 44, 3) := by decide +kernel
theorem d_MD_contract_131 : decode b_MD_contract 131 = .ok (.iload 5, 2) := by decide +kernel
theorem d_MD_contract_133 : decode b_MD_contract 133 = .ok (.iaload, 1) := by decide +kernel
theorem d_MD_contract_134 : decode b_MD_contract 134 = .ok (.iconst 1, 1) := by decide +kernel
theorem d_MD_contract_135 : decode b_MD_contract 135 = .ok (.isub, 1) := by decide +kernel
theorem d_MD_contract_136 : decode b_MD_contract 136 = .ok (.imul, 1) := by decide +kernel
theorem d_MD_contract_137 : decode b_MD_contract 137 = .ok (.iadd, 1) := by decide +kernel
theorem d_MD_contract_138 : decode b_MD_contract 138 = .ok (.sipush 3000, 3) := by decide +kernel
theorem d_MD_contract_141 : decode b_MD_contract 141 = .ok (.if_icmp .le 6, 3) := by decide +kernel
theorem d_MD_contract_144 : decode b_MD_contract 144 = .ok (.bipush (-2), 2) := by decide +kernel
theorem d_MD_contract_146 : decode b_MD_contract 146 = .ok (.ireturn, 1) := by decide +kernel
theorem d_MD_contract_147 : decode b_MD_contract 147 = .ok (.aload_n 0, 1) := by decide +kernel
theorem d_MD_contract_148 : decode b_MD_contract 148 = .ok (.iconst 0, 1) := by decide +kernel
theorem d_MD_contract_149 : decode b_MD_contract 149 = .ok (.putfield 124, 3) := by decide +kernel
theorem d_MD_contract_152 : decode b_MD_contract 152 = .ok (.iconst 0, 1) := by decide +kernel
theorem d_MD_contract_153 : decode b_MD_contract 153 = .ok (.istore 7, 2) := by decide +kernel
theorem d_MD_contract_155 : decode b_MD_contract 155 = .ok (.iload 7, 2) := by decide +kernel
theorem d_MD_contract_157 : decode b_MD_contract 157 = .ok (.iload_n 1, 1) := by decide +kernel
theorem d_MD_contract_158 : decode b_MD_contract 158 = .ok (.if_icmp .ge 27, 3) := by decide +kernel
theorem d_MD_contract_161 : decode b_MD_contract 161 = .ok (.aload_n 0, 1) := by decide +kernel
theorem d_MD_contract_162 : decode b_MD_contract 162 = .ok (.aload_n 0, 1) := by decide +kernel
theorem d_MD_contract_163 : decode b_MD_contract 163 = .ok (.getfield 20, 3) := by decide +kernel
theorem d_MD_contract_166 : decode b_MD_contract 166 = .ok (.iload 7, 2) := by decide +kernel
theorem d_MD_contract_168 : decode b_MD_contract 168 = .ok (.iaload, 1) := by decide +kernel
theorem d_MD_contract_169 : decode b_MD_contract 169 = .ok (.aload_n 0, 1) := by decide +kernel
theorem d_MD_contract_170 : decode b_MD_contract 170 = .ok (.getfield 23, 3) := by decide +kernel
theorem d_MD_contract_173 : decode b_MD_contract 173 = .ok (.iload 7, 2) := by decide +kernel
theorem d_MD_contract_175 : decode b_MD_contract 175 = .ok (.laload, 1) := by decide +kernel
theorem d_MD_contract_176 : decode b_MD_contract 176 = .ok (.invokevirtual 139, 3) := by decide +kernel
theorem d_MD_contract_179 : decode b_MD_contract 179 = .ok (.iinc 7 1, 3) := by decide +kernel
theorem d_MD_contract_182 : decode b_MD_contract 182 = .ok (.goto (-27), 3) := by decide +kernel
theorem d_MD_contract_185 : decode b_MD_contract 185 = .ok (.iload 4, 2) := by decide +kernel
theorem d_MD_contract_187 : decode b_MD_contract 187 = .ok (.istore 7, 2) := by decide +kernel
theorem d_MD_contract_189 : decode b_MD_contract 189 = .ok (.iload 7, 2) := by decide +kernel
theorem d_MD_contract_191 : decode b_MD_contract 191 = .ok (.iload 4, 2) := by decide +kernel
theorem d_MD_contract_193 : decode b_MD_contract 193 = .ok (.aload_n 0, 1) := by decide +kernel
theorem d_MD_contract_194 : decode b_MD_contract 194 = .ok (.getfield 44, 3) := by decide +kernel
theorem d_MD_contract_197 : decode b_MD_contract 197 = .ok (.iload 4, 2) := by decide +kernel
theorem d_MD_contract_199 : decode b_MD_contract 199 = .ok (.iaload, 1) := by decide +kernel
theorem d_MD_contract_200 : decode b_MD_contract 200 = .ok (.iadd, 1) := by decide +kernel
theorem d_MD_contract_201 : decode b_MD_contract 201 = .ok (.if_icmp .ge 208, 3) := by decide +kernel
theorem d_MD_contract_204 : decode b_MD_contract 204 = .ok (.aload_n 0, 1) := by decide +kernel
theorem d_MD_contract_205 : decode b_MD_contract 205 = .ok (.getfield 20, 3) := by decide +kernel
theorem d_MD_contract_208 : decode b_MD_contract 208 = .ok (.iload 7, 2) := by decide +kernel
theorem d_MD_contract_210 : decode b_MD_contract 210 = .ok (.iaload, 1) := by decide +kernel
theorem d_MD_contract_211 : decode b_MD_contract 211 = .ok (.ifCond .ne 14, 3) := by decide +kernel
theorem d_MD_contract_214 : decode b_MD_contract 214 = .ok (.aload_n 0, 1) := by decide +kernel
theorem d_MD_contract_215 : decode b_MD_contract 215 = .ok (.iload 7, 2) := by decide +kernel
theorem d_MD_contract_217 : decode b_MD_contract 217 = .ok (.iload 4, 2) := by decide +kernel
theorem d_MD_contract_219 : decode b_MD_contract 219 = .ok (.invokevirtual 132, 3) := by decide +kernel
theorem d_MD_contract_222 : decode b_MD_contract 222 = .ok (.goto 4, 3) := by decide +kernel
theorem d_MD_contract_225 : decode b_MD_contract 225 = .ok (.iconst 0, 1) := by decide +kernel
theorem d_MD_contract_226 : decode b_MD_contract 226 = .ok (.istore 8, 2) := by decide +kernel
theorem d_MD_contract_228 : decode b_MD_contract 228 = .ok (.aload_n 0, 1) := by decide +kernel
theorem d_MD_contract_229 : decode b_MD_contract 229 = .ok (.getfield 20, 3) := by decide +kernel
theorem d_MD_contract_232 : decode b_MD_contract 232 = .ok (.iload 7, 2) := by decide +kernel
theorem d_MD_contract_234 : decode b_MD_contract 234 = .ok (.iaload, 1) := by decide +kernel
theorem d_MD_contract_235 : decode b_MD_contract 235 = .ok (.ifCond .ne 17, 3) := by decide +kernel
theorem d_MD_contract_238 : decode b_MD_contract 238 = .ok (.aload_n 0, 1) := by decide +kernel
theorem d_MD_contract_239 : decode b_MD_contract 239 = .ok (.getfield 23, 3) := by decide +kernel
theorem d_MD_contract_242 : decode b_MD_contract 242 = .ok (.iload 7, 2) := by decide +kernel
theorem d_MD_contract_244 : decode b_MD_contract 244 = .ok (.laload, 1) := by decide +kernel
theorem d_MD_contract_245 : decode b_MD_contract 245 = .ok (.iload 8, 2) := by decide +kernel
theorem d_MD_contract_247 : decode b_MD_contract 247 = .ok (.i2l, 1) := by decide +kernel
theorem d_MD_contract_248 : decode b_MD_contract 248 = .ok (.lcmp, 1) := by decide +kernel
theorem d_MD_contract_249 : decode b_MD_contract 249 = .ok (.ifCond .ge 24, 3) := by decide +kernel
theorem d_MD_contract_252 : decode b_MD_contract 252 = .ok (.aload_n 0, 1) := by decide +kernel
theorem d_MD_contract_253 : decode b_MD_contract 253 = .ok (.aload_n 0, 1) := by decide +kernel
theorem d_MD_contract_254 : decode b_MD_contract 254 = .ok (.getfield 20, 3) := by decide +kernel
theorem d_MD_contract_257 : decode b_MD_contract 257 = .ok (.iload 7, 2) := by decide +kernel
theorem d_MD_contract_259 : decode b_MD_contract 259 = .ok (.iaload, 1) := by decide +kernel
theorem d_MD_contract_260 : decode b_MD_contract 260 = .ok (.aload_n 0, 1) := by decide +kernel
theorem d_MD_contract_261 : decode b_MD_contract 261 = .ok (.getfield 23, 3) := by decide +kernel
theorem d_MD_contract_264 : decode b_MD_contract 264 = .ok (.iload 7, 2) := by decide +kernel
theorem d_MD_contract_266 : decode b_MD_contract 266 = .ok (.laload, 1) := by decide +kernel
theorem d_MD_contract_267 : decode b_MD_contract 267 = .ok (.invokevirtual 139, 3) := by decide +kernel
theorem d_MD_contract_270 : decode b_MD_contract 270 = .ok (.goto 133, 3) := by decide +kernel
theorem d_MD_contract_273 : decode b_MD_contract 273 = .ok (.aload_n 0, 1) := by decide +kernel
theorem d_MD_contract_274 : decode b_MD_contract 274 = .ok (.getfield 23, 3) := by decide +kernel
theorem d_MD_contract_277 : decode b_MD_contract 277 = .ok (.iload 7, 2) := by decide +kernel
theorem d_MD_contract_279 : decode b_MD_contract 279 = .ok (.laload, 1) := by decide +kernel
theorem d_MD_contract_280 : decode b_MD_contract 280 = .ok (.iload 8, 2) := by decide +kernel
theorem d_MD_contract_282 : decode b_MD_contract 282 = .ok (.i2l, 1) := by decide +kernel
theorem d_MD_contract_283 : decode b_MD_contract 283 = .ok (.lcmp, 1) := by decide +kernel
theorem d_MD_contract_284 : decode b_MD_contract 284 = .ok (.ifCond .le 20, 3) := by decide +kernel
theorem d_MD_contract_287 : decode b_MD_contract 287 = .ok (.aload_n 0, 1) := by decide +kernel
theorem d_MD_contract_288 : decode b_MD_contract 288 = .ok (.iconst 0, 1) := by decide +kernel
theorem d_MD_contract_289 : decode b_MD_contract 289 = .ok (.aload_n 0, 1) := by decide +kernel
theorem d_MD_contract_290 : decode b_MD_contract 290 = .ok (.getfield 23, 3) := by decide +kernel
theorem d_MD_contract_293 : decode b_MD_contract 293 = .ok (.iload 7, 2) := by decide +kernel
theorem d_MD_contract_295 : decode b_MD_contract 295 = .ok (.laload, 1) := by decide +kernel
theorem d_MD_contract_296 : decode b_MD_contract 296 = .ok (.lconst 1, 1) := by decide +kernel
theorem d_MD_contract_297 : decode b_MD_contract 297 = .ok (.lsub, 1) := by decide +kernel
theorem d_MD_contract_298 : decode b_MD_contract 298 = .ok (.invokevirtual 139, 3) := by decide +kernel
theorem d_MD_contract_301 : decode b_MD_contract 301 = .ok (.goto 102, 3) := by decide +kernel
theorem d_MD_contract_304 : decode b_MD_contract 304 = .ok (.iload 5, 2) := by decide +kernel
theorem d_MD_contract_306 : decode b_MD_contract 306 = .ok (.istore 9, 2) := by decide +kernel
theorem d_MD_contract_308 : decode b_MD_contract 308 = .ok (.iload 9, 2) := by decide +kernel
theorem d_MD_contract_310 : decode b_MD_contract 310 = .ok (.iload 5, 2) := by decide +kernel
theorem d_MD_contract_312 : decode b_MD_contract 312 = .ok (.aload_n 0, 1) := by decide +kernel
theorem d_MD_contract_313 : decode b_MD_contract 313 = .ok (.getfield 44, 3) := by decide +kernel
theorem d_MD_contract_316 : decode b_MD_contract 316 = .ok (.iload 5, 2) := by decide +kernel
theorem d_MD_contract_318 : decode b_MD_contract 318 = .ok (.iaload, 1) := by decide +kernel
theorem d_MD_contract_319 : decode b_MD_contract 319 = .ok (.iadd, 1) := by decide +kernel
theorem d_MD_contract_320 : decode b_MD_contract 320 = .ok (.if_icmp .ge 83, 3) := by decide +kernel
theorem d_MD_contract_323 : decode b_MD_contract 323 = .ok (.aload_n 0, 1) := by decide +kernel
theorem d_MD_contract_324 : decode b_MD_contract 324 = .ok (.getfield 20, 3) := by decide +kernel
theorem d_MD_contract_327 : decode b_MD_contract 327 = .ok (.iload 9, 2) := by decide +kernel
theorem d_MD_contract_329 : decode b_MD_contract 329 = .ok (.iaload, 1) := by decide +kernel
theorem d_MD_contract_330 : decode b_MD_contract 330 = .ok (.ifCond .ne 27, 3) := by decide +kernel
theorem d_MD_contract_333 : decode b_MD_contract 333 = .ok (.aload_n 0, 1) := by decide +kernel
theorem d_MD_contract_334 : decode b_MD_contract 334 = .ok (.getfield 23, 3) := by decide +kernel
theorem d_MD_contract_337 : decode b_MD_contract 337 = .ok (.iload 9, 2) := by decide +kernel
theorem d_MD_contract_339 : decode b_MD_contract 339 = .ok (.laload, 1) := by decide +kernel
theorem d_MD_contract_340 : decode b_MD_contract 340 = .ok (.aload_n 0, 1) := by decide +kernel
theorem d_MD_contract_341 : decode b_MD_contract 341 = .ok (.iload 9, 2) := by decide +kernel
theorem d_MD_contract_343 : decode b_MD_contract 343 = .ok (.iload 5, 2) := by decide +kernel
theorem d_MD_contract_345 : decode b_MD_contract 345 = .ok (.invokevirtual 132, 3) := by decide +kernel
theorem d_MD_contract_348 : decode b_MD_contract 348 = .ok (.i2l, 1) := by decide +kernel
theorem d_MD_contract_349 : decode b_MD_contract 349 = .ok (.lcmp, 1) := by decide +kernel
theorem d_MD_contract_350 : decode b_MD_contract 350 = .ok (.ifCond .lt 7, 3) := by decide +kernel
theorem d_MD_contract_353 : decode b_MD_contract 353 = .ok (.iconst 1, 1) := by decide +kernel
theorem d_MD_contract_354 : decode b_MD_contract 354 = .ok (.goto 4, 3) := by decide +kernel
theorem d_MD_contract_357 : decode b_MD_contract 357 = .ok (.iconst 0, 1) := by decide +kernel
theorem d_MD_contract_358 : decode b_MD_contract 358 = .ok (.istore 10, 2) := by decide +kernel
theorem d_MD_contract_360 : decode b_MD_contract 360 = .ok (.aload_n 0, 1) := by decide +kernel
theorem d_MD_contract_361 : decode b_MD_contract 361 = .ok (.aload_n 0, 1) := by decide +kernel
theorem d_MD_contract_362 : decode b_MD_contract 362 = .ok (.getfield 20, 3) := by decide +kernel
theorem d_MD_contract_365 : decode b_MD_contract 365 = .ok (.iload 9, 2) := by decide +kernel
theorem d_MD_contract_367 : decode b_MD_contract 367 = .ok (.iaload, 1) := by decide +kernel
theorem d_MD_contract_368 : decode b_MD_contract 368 = .ok (.iload 10, 2) := by decide +kernel
theorem d_MD_contract_370 : decode b_MD_contract 370 = .ok (.ifCond .eq 17, 3) := by decide +kernel
theorem d_MD_contract_373 : decode b_MD_contract 373 = .ok (.aload_n 0, 1) := by decide +kernel
theorem d_MD_contract_374 : decode b_MD_contract 374 = .ok (.getfield 23, 3) := by decide +kernel
theorem d_MD_contract_377 : decode b_MD_contract 377 = .ok (.iload 9, 2) := by decide +kernel
theorem d_MD_contract_379 : decode b_MD_contract 379 = .ok (.laload, 1) := by decide +kernel
theorem d_MD_contract_380 : decode b_MD_contract 380 = .ok (.iload 8, 2) := by decide +kernel
theorem d_MD_contract_382 : decode b_MD_contract 382 = .ok (.i2l, 1) := by decide +kernel
theorem d_MD_contract_383 : decode b_MD_contract 383 = .ok (.ladd, 1) := by decide +kernel
theorem d_MD_contract_384 : decode b_MD_contract 384 = .ok (.goto 10, 3) := by decide +kernel
theorem d_MD_contract_387 : decode b_MD_contract 387 = .ok (.aload_n 0, 1) := by decide +kernel
theorem d_MD_contract_388 : decode b_MD_contract 388 = .ok (.getfield 23, 3) := by decide +kernel
theorem d_MD_contract_391 : decode b_MD_contract 391 = .ok (.iload 9, 2) := by decide +kernel
theorem d_MD_contract_393 : decode b_MD_contract 393 = .ok (.laload, 1) := by decide +kernel
theorem d_MD_contract_394 : decode b_MD_contract 394 = .ok (.invokevirtual 139, 3) := by decide +kernel
theorem d_MD_contract_397 : decode b_MD_contract 397 = .ok (.iinc 9 1, 3) := by decide +kernel
theorem d_MD_contract_400 : decode b_MD_contract 400 = .ok (.goto (-92), 3) := by decide +kernel
theorem d_MD_contract_403 : decode b_MD_contract 403 = .ok (.iinc 7 1, 3) := by decide +kernel
theorem d_MD_contract_406 : decode b_MD_contract 406 = .ok (.goto (-217), 3) := by decide +kernel
theorem d_MD_contract_409 : decode b_MD_contract 409 = .ok (.iload_n 1, 1) := by decide +kernel
theorem d_MD_contract_410 : decode b_MD_contract 410 = .ok (.aload_n 0, 1) := by decide +kernel
theorem d_MD_contract_411 : decode b_MD_contract 411 = .ok (.getfield 44, 3) := by decide +kernel
theorem d_MD_contract_414 : decode b_MD_contract 414 = .ok (.iload_n 1, 1) := by decide +kernel
theorem d_MD_contract_415 : decode b_MD_contract 415 = .ok (.iaload, 1) := by decide +kernel
theorem d_MD_contract_416 : decode b_MD_contract 416 = .ok (.iadd, 1) := by decide +kernel
theorem d_MD_contract_417 : decode b_MD_contract 417 = .ok (.istore 7, 2) := by decide +kernel
theorem d_MD_contract_419 : decode b_MD_contract 419 = .ok (.iload 7, 2) := by decide +kernel
theorem d_MD_contract_421 : decode b_MD_contract 421 = .ok (.aload_n 0, 1) := by decide +kernel
theorem d_MD_contract_422 : decode b_MD_contract 422 = .ok (.getfield 53, 3) := by decide +kernel
theorem d_MD_contract_425 : decode b_MD_contract 425 = .ok (.if_icmp .ge 27, 3) := by decide +kernel
theorem d_MD_contract_428 : decode b_MD_contract 428 = .ok (.aload_n 0, 1) := by decide +kernel
theorem d_MD_contract_429 : decode b_MD_contract 429 = .ok (.aload_n 0, 1) := by decide +kernel
theorem d_MD_contract_430 : decode b_MD_contract 430 = .ok (.getfield 20, 3) := by decide +kernel
theorem d_MD_contract_433 : decode b_MD_contract 433 = .ok (.iload 7, 2) := by decide +kernel
theorem d_MD_contract_435 : decode b_MD_contract 435 = .ok (.iaload, 1) := by decide +kernel
theorem d_MD_contract_436 : decode b_MD_contract 436 = .ok (.aload_n 0, 1) := by decide +kernel
theorem d_MD_contract_437 : decode b_MD_contract 437 = .ok (.getfield 23, 3) := by decide +kernel
theorem d_MD_contract_440 : decode b_MD_contract 440 = .ok (.iload 7, 2) := by decide +kernel
theorem d_MD_contract_442 : decode b_MD_contract 442 = .ok (.laload, 1) := by decide +kernel
theorem d_MD_contract_443 : decode b_MD_contract 443 = .ok (.invokevirtual 139, 3) := by decide +kernel
theorem d_MD_contract_446 : decode b_MD_contract 446 = .ok (.iinc 7 1, 3) := by decide +kernel
theorem d_MD_contract_449 : decode b_MD_contract 449 = .ok (.goto (-30), 3) := by decide +kernel
theorem d_MD_contract_452 : decode b_MD_contract 452 = .ok (.aload_n 0, 1) := by decide +kernel
theorem d_MD_contract_453 : decode b_MD_contract 453 = .ok (.invokevirtual 127, 3) := by decide +kernel
theorem d_MD_contract_456 : decode b_MD_contract 456 = .ok (.aload_n 0, 1) := by decide +kernel
theorem d_MD_contract_457 : decode b_MD_contract 457 = .ok (.getfield 53, 3) := by decide +kernel
theorem d_MD_contract_460 : decode b_MD_contract 460 = .ok (.ireturn, 1) := by decide +kernel
theorem d_MD_findBinders_0 : decode b_MD_findBinders 0 = .ok (.iconst 0, 1) := by decide +kernel
theorem d_MD_findBinders_1 : decode b_MD_findBinders 1 = .ok (.istore_n 1, 1) := by decide +kernel
theorem d_MD_findBinders_2 : decode b_MD_findBinders 2 = .ok (.iload_n 1, 1) := by decide +kernel
theorem d_MD_findBinders_3 : decode b_MD_findBinders 3 = .ok (.aload_n 0, 1) := by decide +kernel
theorem d_MD_findBinders_4 : decode b_MD_findBinders 4 = .ok (.getfield 53, 3) := by decide +kernel
theorem d_MD_findBinders_7 : decode b_MD_findBinders 7 = .ok (.if_icmp .ge 109, 3) := by decide +kernel
theorem d_MD_findBinders_10 : decode b_MD_findBinders 10 = .ok (.aload_n 0, 1) := by decide +kernel
theorem d_MD_findBinders_11 : decode b_MD_findBinders 11 = .ok (.getfield 50, 3) := by decide +kernel
theorem d_MD_findBinders_14 : decode b_MD_findBinders 14 = .ok (.iload_n 1, 1) := by decide +kernel
theorem d_MD_findBinders_15 : decode b_MD_findBinders 15 = .ok (.iconst (-1), 1) := by decide +kernel
theorem d_MD_findBinders_16 : decode b_MD_findBinders 16 = .ok (.iastore, 1) := by decide +kernel
theorem d_MD_findBinders_17 : decode b_MD_findBinders 17 = .ok (.aload_n 0, 1) := by decide +kernel
theorem d_MD_findBinders_18 : decode b_MD_findBinders 18 = .ok (.getfield 20, 3) := by decide +kernel
theorem d_MD_findBinders_21 : decode b_MD_findBinders 21 = .ok (.iload_n 1, 1) := by decide +kernel
theorem d_MD_findBinders_22 : decode b_MD_findBinders 22 = .ok (.iaload, 1) := by decide +kernel
theorem d_MD_findBinders_23 : decode b_MD_findBinders 23 = .ok (.ifCond .ne 12, 3) := by decide +kernel
theorem d_MD_findBinders_26 : decode b_MD_findBinders 26 = .ok (.aload_n 0, 1) := by decide +kernel
theorem d_MD_findBinders_27 : decode b_MD_findBinders 27 = .ok (.getfield 23, 3) := by decide +kernel
theorem d_MD_findBinders_30 : decode b_MD_findBinders 30 = .ok (.iload_n 1, 1) := by decide +kernel
theorem d_MD_findBinders_31 : decode b_MD_findBinders 31 = .ok (.laload, 1) := by decide +kernel
theorem d_MD_findBinders_32 : decode b_MD_findBinders 32 = .ok (.goto 6, 3) := by decide +kernel
theorem d_MD_findBinders_35 : decode b_MD_findBinders 35 = .ok (.ldc2_w 130, 3) := by decide +kernel
theorem d_MD_findBinders_38 : decode b_MD_findBinders 38 = .ok (.lstore_n 2, 1) := by decide +kernel
theorem d_MD_findBinders_39 : decode b_MD_findBinders 39 = .ok (.iload_n 1, 1) := by decide +kernel
theorem d_MD_findBinders_40 : decode b_MD_findBinders 40 = .ok (.istore 4, 2) := by decide +kernel
theorem d_MD_findBinders_42 : decode b_MD_findBinders 42 = .ok (.lload_n 2, 1) := by decide +kernel
theorem d_MD_findBinders_43 : decode b_MD_findBinders 43 = .ok (.lconst 0, 1) := by decide +kernel
theorem d_MD_findBinders_44 : decode b_MD_findBinders 44 = .ok (.lcmp, 1) := by decide +kernel
theorem d_MD_findBinders_45 : decode b_MD_findBinders 45 = .ok (.ifCond .lt 65, 3) := by decide +kernel
theorem d_MD_findBinders_48 : decode b_MD_findBinders 48 = .ok (.aload_n 0, 1) := by decide +kernel
theorem d_MD_findBinders_49 : decode b_MD_findBinders 49 = .ok (.getfield 47, 3) := by decide +kernel
theorem d_MD_findBinders_52 : decode b_MD_findBinders 52 = .ok (.iload 4, 2) := by decide +kernel
theorem d_MD_findBinders_54 : decode b_MD_findBinders 54 = .ok (.iaload, 1) := by decide +kernel
theorem d_MD_findBinders_55 : decode b_MD_findBinders 55 = .ok (.istore 5, 2) := by decide +kernel
theorem d_MD_findBinders_57 : decode b_MD_findBinders 57 = .ok (.aload_n 0, 1) := by decide +kernel
theorem d_MD_findBinders_58 : decode b_MD_findBinders 58 = .ok (.getfield 20, 3) := by decide +kernel
theorem d_MD_findBinders_61 : decode b_MD_findBinders 61 = .ok (.iload 5, 2) := by decide +kernel
theorem d_MD_findBinders_63 : decode b_MD_findBinders 63 = .ok (.iaload, 1) := by decide +kernel
theorem d_MD_findBinders_64 : decode b_MD_findBinders 64 = .ok (.invokestatic 98, 3) := by decide +kernel
theorem d_MD_findBinders_67 : decode b_MD_findBinders 67 = .ok (.ifCond .eq 36, 3) := by decide +kernel
theorem d_MD_findBinders_70 : decode b_MD_findBinders 70 = .ok (.iload 4, 2) := by decide +kernel
theorem d_MD_findBinders_72 : decode b_MD_findBinders 72 = .ok (.aload_n 0, 1) := by decide +kernel
theorem d_MD_findBinders_73 : decode b_MD_findBinders 73 = .ok (.iload 5, 2) := by decide +kernel
theorem d_MD_findBinders_75 : decode b_MD_findBinders 75 = .ok (.invokevirtual 101, 3) := by decide +kernel
theorem d_MD_findBinders_78 : decode b_MD_findBinders 78 = .ok (.if_icmp .ne 25, 3) := by decide +kernel
theorem d_MD_findBinders_81 : decode b_MD_findBinders 81 = .ok (.aload_n 0, 1) := by decide +kernel
theorem d_MD_findBinders_82 : decode b_MD_findBinders 82 = .ok (.getfield 50, 3) := by decide +kernel
theorem d_MD_findBinders_85 : decode b_MD_findBinders 85 = .ok (.iload_n 1, 1) := by decide +kernel
theorem d_MD_findBinders_86 : decode b_MD_findBinders 86 = .ok (.lload_n 2, 1) := by decide +kernel
theorem d_MD_findBinders_87 : decode b_MD_findBinders 87 = .ok (.lconst 0, 1) := by decide +kernel
theorem d_MD_findBinders_88 : decode b_MD_findBinders 88 = .ok (.lcmp, 1) := by decide +kernel
theorem d_MD_findBinders_89 : decode b_MD_findBinders 89 = .ok (.ifCond .ne 8, 3) := by decide +kernel
theorem d_MD_findBinders_92 : decode b_MD_findBinders 92 = .ok (.iload 5, 2) := by decide +kernel
theorem d_MD_findBinders_94 : decode b_MD_findBinders 94 = .ok (.goto 4, 3) := by decide +kernel
theorem d_MD_findBinders_97 : decode b_MD_findBinders 97 = .ok (.iconst (-1), 1) := by decide +kernel
theorem d_MD_findBinders_98 : decode b_MD_findBinders 98 = .ok (.iastore, 1) := by decide +kernel
theorem d_MD_findBinders_99 : decode b_MD_findBinders 99 = .ok (.lload_n 2, 1) := by decide +kernel
theorem d_MD_findBinders_100 : decode b_MD_findBinders 100 = .ok (.lconst 1, 1) := by decide +kernel
theorem d_MD_findBinders_101 : decode b_MD_findBinders 101 = .ok (.lsub, 1) := by decide +kernel
theorem d_MD_findBinders_102 : decode b_MD_findBinders 102 = .ok (.lstore_n 2, 1) := by decide +kernel
theorem d_MD_findBinders_103 : decode b_MD_findBinders 103 = .ok (.iload 5, 2) := by decide +kernel
theorem d_MD_findBinders_105 : decode b_MD_findBinders 105 = .ok (.istore 4, 2) := by decide +kernel
theorem d_MD_findBinders_107 : decode b_MD_findBinders 107 = .ok (.goto (-65), 3) := by decide +kernel
theorem d_MD_findBinders_110 : decode b_MD_findBinders 110 = .ok (.iinc 1 1, 3) := by decide +kernel
theorem d_MD_findBinders_113 : decode b_MD_findBinders 113 = .ok (.goto (-111), 3) := by decide +kernel
theorem d_MD_findBinders_116 : decode b_MD_findBinders 116 = .ok (.return_, 1) := by decide +kernel
theorem d_MD_catches_0 : decode b_MD_catches 0 = .ok (.aload_n 0, 1) := by decide +kernel
theorem d_MD_catches_1 : decode b_MD_catches 1 = .ok (.iload_n 1, 1) := by decide +kernel
theorem d_MD_catches_2 : decode b_MD_catches 2 = .ok (.invokevirtual 101, 3) := by decide +kernel
theorem d_MD_catches_5 : decode b_MD_catches 5 = .ok (.istore 4, 2) := by decide +kernel
theorem d_MD_catches_7 : decode b_MD_catches 7 = .ok (.iload 4, 2) := by decide +kernel
theorem d_MD_catches_9 : decode b_MD_catches 9 = .ok (.iload_n 1, 1) := by decide +kernel
theorem d_MD_catches_10 : decode b_MD_catches 10 = .ok (.aload_n 0, 1) := by decide +kernel
theorem d_MD_catches_11 : decode b_MD_catches 11 = .ok (.getfield 44, 3) := by decide +kernel
theorem d_MD_catches_14 : decode b_MD_catches 14 = .ok (.iload_n 1, 1) := by decide +kernel
theorem d_MD_catches_15 : decode b_MD_catches 15 = .ok (.iaload, 1) := by decide +kernel
theorem d_MD_catches_16 : decode b_MD_catches 16 = .ok (.iadd, 1) := by decide +kernel
theorem d_MD_catches_17 : decode b_MD_catches 17 = .ok (.if_icmp .ge 79, 3) := by decide +kernel
theorem d_MD_catches_20 : decode b_MD_catches 20 = .ok (.aload_n 0, 1) := by decide +kernel
theorem d_MD_catches_21 : decode b_MD_catches 21 = .ok (.getfield 20, 3) := by decide +kernel
theorem d_MD_catches_24 : decode b_MD_catches 24 = .ok (.iload 4, 2) := by decide +kernel
theorem d_MD_catches_26 : decode b_MD_catches 26 = .ok (.iaload, 1) := by decide +kernel
theorem d_MD_catches_27 : decode b_MD_catches 27 = .ok (.bipush 7, 2) := by decide +kernel
theorem d_MD_catches_29 : decode b_MD_catches 29 = .ok (.if_icmp .ne 21, 3) := by decide +kernel
theorem d_MD_catches_32 : decode b_MD_catches 32 = .ok (.aload_n 0, 1) := by decide +kernel
theorem d_MD_catches_33 : decode b_MD_catches 33 = .ok (.getfield 7, 3) := by decide +kernel
theorem d_MD_catches_36 : decode b_MD_catches 36 = .ok (.aload_n 0, 1) := by decide +kernel
theorem d_MD_catches_37 : decode b_MD_catches 37 = .ok (.getfield 23, 3) := by decide +kernel
theorem d_MD_catches_40 : decode b_MD_catches 40 = .ok (.iload 4, 2) := by decide +kernel
theorem d_MD_catches_42 : decode b_MD_catches 42 = .ok (.laload, 1) := by decide +kernel
theorem d_MD_catches_43 : decode b_MD_catches 43 = .ok (.l2i, 1) := by decide +kernel
theorem d_MD_catches_44 : decode b_MD_catches 44 = .ok (.laload, 1) := by decide +kernel
theorem d_MD_catches_45 : decode b_MD_catches 45 = .ok (.lload_n 2, 1) := by decide +kernel
theorem d_MD_catches_46 : decode b_MD_catches 46 = .ok (.lcmp, 1) := by decide +kernel
theorem d_MD_catches_47 : decode b_MD_catches 47 = .ok (.ifCond .eq 41, 3) := by decide +kernel
theorem d_MD_catches_50 : decode b_MD_catches 50 = .ok (.aload_n 0, 1) := by decide +kernel
theorem d_MD_catches_51 : decode b_MD_catches 51 = .ok (.getfield 20, 3) := by decide +kernel
theorem d_MD_catches_54 : decode b_MD_catches 54 = .ok (.iload 4, 2) := by decide +kernel
theorem d_MD_catches_56 : decode b_MD_catches 56 = .ok (.iaload, 1) := by decide +kernel
theorem d_MD_catches_57 : decode b_MD_catches 57 = .ok (.ifCond .ne 33, 3) := by decide +kernel
theorem d_MD_catches_60 : decode b_MD_catches 60 = .ok (.aload_n 0, 1) := by decide +kernel
theorem d_MD_catches_61 : decode b_MD_catches 61 = .ok (.getfield 50, 3) := by decide +kernel
theorem d_MD_catches_64 : decode b_MD_catches 64 = .ok (.iload 4, 2) := by decide +kernel
theorem d_MD_catches_66 : decode b_MD_catches 66 = .ok (.iaload, 1) := by decide +kernel
theorem d_MD_catches_67 : decode b_MD_catches 67 = .ok (.iload_n 1, 1) := by decide +kernel
theorem d_MD_catches_68 : decode b_MD_catches 68 = .ok (.if_icmp .ge 22, 3) := by decide +kernel
theorem d_MD_catches_71 : decode b_MD_catches 71 = .ok (.aload_n 0, 1) := by decide +kernel
theorem d_MD_catches_72 : decode b_MD_catches 72 = .ok (.getfield 35, 3) := by decide +kernel
theorem d_MD_catches_75 : decode b_MD_catches 75 = .ok (.aload_n 0, 1) := by decide +kernel
theorem d_MD_catches_76 : decode b_MD_catches 76 = .ok (.getfield 50, 3) := by decide +kernel
theorem d_MD_catches_79 : decode b_MD_catches 79 = .ok (.iload 4, 2) := by decide +kernel
theorem d_MD_catches_81 : decode b_MD_catches 81 = .ok (.iaload, 1) := by decide +kernel
theorem d_MD_catches_82 : decode b_MD_catches 82 = .ok (.laload, 1) := by decide +kernel
theorem d_MD_catches_83 : decode b_MD_catches 83 = .ok (.lload_n 2, 1) := by decide +kernel
theorem d_MD_catches_84 : decode b_MD_catches 84 = .ok (.lcmp, 1) := by decide +kernel
theorem d_MD_catches_85 : decode b_MD_catches 85 = .ok (.ifCond .ne 5, 3) := by decide +kernel
theorem d_MD_catches_88 : decode b_MD_catches 88 = .ok (.iconst 1, 1) := by decide +kernel
theorem d_MD_catches_89 : decode b_MD_catches 89 = .ok (.ireturn, 1) := by decide +kernel
theorem d_MD_catches_90 : decode b_MD_catches 90 = .ok (.iinc 4 1, 3) := by decide +kernel
theorem d_MD_catches_93 : decode b_MD_catches 93 = .ok (.goto (-86), 3) := by decide +kernel
theorem d_MD_catches_96 : decode b_MD_catches 96 = .ok (.iconst 0, 1) := by decide +kernel
theorem d_MD_catches_97 : decode b_MD_catches 97 = .ok (.ireturn, 1) := by decide +kernel
theorem d_MD_numbered_0 : decode b_MD_numbered 0 = .ok (.lload_n 0, 1) := by decide +kernel
theorem d_MD_numbered_1 : decode b_MD_numbered 1 = .ok (.lstore_n 3, 1) := by decide +kernel
theorem d_MD_numbered_2 : decode b_MD_numbered 2 = .ok (.sipush 1000, 3) := by decide +kernel
theorem d_MD_numbered_5 : decode b_MD_numbered 5 = .ok (.istore 5, 2) := by decide +kernel
theorem d_MD_numbered_7 : decode b_MD_numbered 7 = .ok (.iload 5, 2) := by decide +kernel
theorem d_MD_numbered_9 : decode b_MD_numbered 9 = .ok (.ifCond .le 40, 3) := by decide +kernel
theorem d_MD_numbered_12 : decode b_MD_numbered 12 = .ok (.iload_n 2, 1) := by decide +kernel
theorem d_MD_numbered_13 : decode b_MD_numbered 13 = .ok (.iload 5, 2) := by decide +kernel
theorem d_MD_numbered_15 : decode b_MD_numbered 15 = .ok (.if_icmp .lt 22, 3) := by decide +kernel
theorem d_MD_numbered_18 : decode b_MD_numbered 18 = .ok (.lload_n 3, 1) := by decide +kernel
theorem d_MD_numbered_19 : decode b_MD_numbered 19 = .ok (.bipush 8, 2) := by decide +kernel
theorem d_MD_numbered_21 : decode b_MD_numbered 21 = .ok (.lshl, 1) := by decide +kernel
theorem d_MD_numbered_22 : decode b_MD_numbered 22 = .ok (.bipush 48, 2) := by decide +kernel
theorem d_MD_numbered_24 : decode b_MD_numbered 24 = .ok (.iload_n 2, 1) := by decide +kernel
theorem d_MD_numbered_25 : decode b_MD_numbered 25 = .ok (.iload 5, 2) := by decide +kernel
theorem d_MD_numbered_27 : decode b_MD_numbered 27 = .ok (.idiv, 1) := by decide +kernel
theorem d_MD_numbered_28 : decode b_MD_numbered 28 = .ok (.bipush 10, 2) := by decide +kernel
theorem d_MD_numbered_30 : decode b_MD_numbered 30 = .ok (.irem, 1) := by decide +kernel
theorem d_MD_numbered_31 : decode b_MD_numbered 31 = .ok (.iadd, 1) := by decide +kernel
theorem d_MD_numbered_32 : decode b_MD_numbered 32 = .ok (.i2l, 1) := by decide +kernel
theorem d_MD_numbered_33 : decode b_MD_numbered 33 = .ok (.lor, 1) := by decide +kernel
theorem d_MD_numbered_34 : decode b_MD_numbered 34 = .ok (.goto 4, 3) := by decide +kernel
theorem d_MD_numbered_37 : decode b_MD_numbered 37 = .ok (.lload_n 3, 1) := by decide +kernel
theorem d_MD_numbered_38 : decode b_MD_numbered 38 = .ok (.lstore_n 3, 1) := by decide +kernel
theorem d_MD_numbered_39 : decode b_MD_numbered 39 = .ok (.iload 5, 2) := by decide +kernel
theorem d_MD_numbered_41 : decode b_MD_numbered 41 = .ok (.bipush 10, 2) := by decide +kernel
theorem d_MD_numbered_43 : decode b_MD_numbered 43 = .ok (.idiv, 1) := by decide +kernel
theorem d_MD_numbered_44 : decode b_MD_numbered 44 = .ok (.istore 5, 2) := by decide +kernel
theorem d_MD_numbered_46 : decode b_MD_numbered 46 = .ok (.goto (-39), 3) := by decide +kernel
theorem d_MD_numbered_49 : decode b_MD_numbered 49 = .ok (.lload_n 3, 1) := by decide +kernel
theorem d_MD_numbered_50 : decode b_MD_numbered 50 = .ok (.lreturn, 1) := by decide +kernel
theorem d_MD_write_0 : decode b_MD_write 0 = .ok (.aload_n 0, 1) := by decide +kernel
theorem d_MD_write_1 : decode b_MD_write 1 = .ok (.getfield 53, 3) := by decide +kernel
theorem d_MD_write_4 : decode b_MD_write 4 = .ok (.ifCond .ne 5, 3) := by decide +kernel
theorem d_MD_write_7 : decode b_MD_write 7 = .ok (.iconst (-1), 1) := by decide +kernel
theorem d_MD_write_8 : decode b_MD_write 8 = .ok (.ireturn, 1) := by decide +kernel
