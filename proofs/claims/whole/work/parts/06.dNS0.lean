theorem d_NS_init_0 : decode b_NS_init 0 = .ok (.aload_n 0, 1) := by decide +kernel
theorem d_NS_init_1 : decode b_NS_init 1 = .ok (.invokespecial 1, 3) := by decide +kernel
theorem d_NS_init_4 : decode b_NS_init 4 = .ok (.aload_n 0, 1) := by decide +kernel
theorem d_NS_init_5 : decode b_NS_init 5 = .ok (.new 7, 3) := by decide +kernel
theorem d_NS_init_8 : decode b_NS_init 8 = .ok (.dup, 1) := by decide +kernel
theorem d_NS_init_9 : decode b_NS_init 9 = .ok (.invokespecial 9, 3) := by decide +kernel
theorem d_NS_init_12 : decode b_NS_init 12 = .ok (.putfield 10, 3) := by decide +kernel
theorem d_NS_init_15 : decode b_NS_init 15 = .ok (.aload_n 0, 1) := by decide +kernel
theorem d_NS_init_16 : decode b_NS_init 16 = .ok (.new 16, 3) := by decide +kernel
theorem d_NS_init_19 : decode b_NS_init 19 = .ok (.dup, 1) := by decide +kernel
theorem d_NS_init_20 : decode b_NS_init 20 = .ok (.invokespecial 18, 3) := by decide +kernel
theorem d_NS_init_23 : decode b_NS_init 23 = .ok (.putfield 19, 3) := by decide +kernel
theorem d_NS_init_26 : decode b_NS_init 26 = .ok (.aload_n 0, 1) := by decide +kernel
theorem d_NS_init_27 : decode b_NS_init 27 = .ok (.new 16, 3) := by decide +kernel
theorem d_NS_init_30 : decode b_NS_init 30 = .ok (.dup, 1) := by decide +kernel
theorem d_NS_init_31 : decode b_NS_init 31 = .ok (.invokespecial 18, 3) := by decide +kernel
theorem d_NS_init_34 : decode b_NS_init 34 = .ok (.putfield 23, 3) := by decide +kernel
theorem d_NS_init_37 : decode b_NS_init 37 = .ok (.aload_n 0, 1) := by decide +kernel
theorem d_NS_init_38 : decode b_NS_init 38 = .ok (.new 16, 3) := by decide +kernel
theorem d_NS_init_41 : decode b_NS_init 41 = .ok (.dup, 1) := by decide +kernel
theorem d_NS_init_42 : decode b_NS_init 42 = .ok (.invokespecial 18, 3) := by decide +kernel
theorem d_NS_init_45 : decode b_NS_init 45 = .ok (.putfield 26, 3) := by decide +kernel
theorem d_NS_init_48 : decode b_NS_init 48 = .ok (.aload_n 0, 1) := by decide +kernel
theorem d_NS_init_49 : decode b_NS_init 49 = .ok (.new 29, 3) := by decide +kernel
theorem d_NS_init_52 : decode b_NS_init 52 = .ok (.dup, 1) := by decide +kernel
theorem d_NS_init_53 : decode b_NS_init 53 = .ok (.invokespecial 31, 3) := by decide +kernel
theorem d_NS_init_56 : decode b_NS_init 56 = .ok (.putfield 32, 3) := by decide +kernel
theorem d_NS_init_59 : decode b_NS_init 59 = .ok (.aload_n 0, 1) := by decide +kernel
theorem d_NS_init_60 : decode b_NS_init 60 = .ok (.new 36, 3) := by decide +kernel
theorem d_NS_init_63 : decode b_NS_init 63 = .ok (.dup, 1) := by decide +kernel
theorem d_NS_init_64 : decode b_NS_init 64 = .ok (.invokespecial 38, 3) := by decide +kernel
theorem d_NS_init_67 : decode b_NS_init 67 = .ok (.putfield 39, 3) := by decide +kernel
theorem d_NS_init_70 : decode b_NS_init 70 = .ok (.aload_n 0, 1) := by decide +kernel
theorem d_NS_init_71 : decode b_NS_init 71 = .ok (.new 16, 3) := by decide +kernel
theorem d_NS_init_74 : decode b_NS_init 74 = .ok (.dup, 1) := by decide +kernel
theorem d_NS_init_75 : decode b_NS_init 75 = .ok (.invokespecial 18, 3) := by decide +kernel
theorem d_NS_init_78 : decode b_NS_init 78 = .ok (.putfield 43, 3) := by decide +kernel
theorem d_NS_init_81 : decode b_NS_init 81 = .ok (.aload_n 0, 1) := by decide +kernel
theorem d_NS_init_82 : decode b_NS_init 82 = .ok (.new 16, 3) := by decide +kernel
theorem d_NS_init_85 : decode b_NS_init 85 = .ok (.dup, 1) := by decide +kernel
theorem d_NS_init_86 : decode b_NS_init 86 = .ok (.invokespecial 18, 3) := by decide +kernel
theorem d_NS_init_89 : decode b_NS_init 89 = .ok (.putfield 46, 3) := by decide +kernel
theorem d_NS_init_92 : decode b_NS_init 92 = .ok (.return_, 1) := by decide +kernel
theorem d_NS_global_0 : decode b_NS_global 0 = .ok (.lload_n 1, 1) := by decide +kernel
theorem d_NS_global_1 : decode b_NS_global 1 = .ok (.invokestatic 49, 3) := by decide +kernel
theorem d_NS_global_4 : decode b_NS_global 4 = .ok (.ifCond .eq 14, 3) := by decide +kernel
theorem d_NS_global_7 : decode b_NS_global 7 = .ok (.aload_n 0, 1) := by decide +kernel
theorem d_NS_global_8 : decode b_NS_global 8 = .ok (.getfield 10, 3) := by decide +kernel
theorem d_NS_global_11 : decode b_NS_global 11 = .ok (.lload_n 1, 1) := by decide +kernel
theorem d_NS_global_12 : decode b_NS_global 12 = .ok (.invokevirtual 55, 3) := by decide +kernel
theorem d_NS_global_15 : decode b_NS_global 15 = .ok (.goto 4, 3) := by decide +kernel
theorem d_NS_global_18 : decode b_NS_global 18 = .ok (.iconst (-1), 1) := by decide +kernel
theorem d_NS_global_19 : decode b_NS_global 19 = .ok (.ireturn, 1) := by decide +kernel
theorem d_NS_lay_0 : decode b_NS_lay 0 = .ok (.iload_n 1, 1) := by decide +kernel
theorem d_NS_lay_1 : decode b_NS_lay 1 = .ok (.lload_n 2, 1) := by decide +kernel
theorem d_NS_lay_2 : decode b_NS_lay 2 = .ok (.invokestatic 59, 3) := by decide +kernel
theorem d_NS_lay_5 : decode b_NS_lay 5 = .ok (.ifCond .eq 16, 3) := by decide +kernel
theorem d_NS_lay_8 : decode b_NS_lay 8 = .ok (.aload_n 0, 1) := by decide +kernel
theorem d_NS_lay_9 : decode b_NS_lay 9 = .ok (.getfield 26, 3) := by decide +kernel
theorem d_NS_lay_12 : decode b_NS_lay 12 = .ok (.invokevirtual 63, 3) := by decide +kernel
theorem d_NS_lay_15 : decode b_NS_lay 15 = .ok (.sipush 3000, 3) := by decide +kernel
theorem d_NS_lay_18 : decode b_NS_lay 18 = .ok (.if_icmp .lt 5, 3) := by decide +kernel
theorem d_NS_lay_21 : decode b_NS_lay 21 = .ok (.iconst (-1), 1) := by decide +kernel
theorem d_NS_lay_22 : decode b_NS_lay 22 = .ok (.ireturn, 1) := by decide +kernel
theorem d_NS_lay_23 : decode b_NS_lay 23 = .ok (.aload_n 0, 1) := by decide +kernel
theorem d_NS_lay_24 : decode b_NS_lay 24 = .ok (.getfield 26, 3) := by decide +kernel
theorem d_NS_lay_27 : decode b_NS_lay 27 = .ok (.iload_n 1, 1) := by decide +kernel
theorem d_NS_lay_28 : decode b_NS_lay 28 = .ok (.lload_n 2, 1) := by decide +kernel
theorem d_NS_lay_29 : decode b_NS_lay 29 = .ok (.invokevirtual 67, 3) := by decide +kernel
theorem d_NS_lay_32 : decode b_NS_lay 32 = .ok (.aload_n 0, 1) := by decide +kernel
theorem d_NS_lay_33 : decode b_NS_lay 33 = .ok (.getfield 26, 3) := by decide +kernel
theorem d_NS_lay_36 : decode b_NS_lay 36 = .ok (.invokevirtual 63, 3) := by decide +kernel
theorem d_NS_lay_39 : decode b_NS_lay 39 = .ok (.ireturn, 1) := by decide +kernel
theorem d_NS_drop_0 : decode b_NS_drop 0 = .ok (.aload_n 0, 1) := by decide +kernel
theorem d_NS_drop_1 : decode b_NS_drop 1 = .ok (.getfield 26, 3) := by decide +kernel
theorem d_NS_drop_4 : decode b_NS_drop 4 = .ok (.invokevirtual 63, 3) := by decide +kernel
theorem d_NS_drop_7 : decode b_NS_drop 7 = .ok (.istore_n 1, 1) := by decide +kernel
theorem d_NS_drop_8 : decode b_NS_drop 8 = .ok (.aload_n 0, 1) := by decide +kernel
theorem d_NS_drop_9 : decode b_NS_drop 9 = .ok (.getfield 26, 3) := by decide +kernel
theorem d_NS_drop_12 : decode b_NS_drop 12 = .ok (.invokevirtual 70, 3) := by decide +kernel
theorem d_NS_drop_15 : decode b_NS_drop 15 = .ok (.iload_n 1, 1) := by decide +kernel
theorem d_NS_drop_16 : decode b_NS_drop 16 = .ok (.ireturn, 1) := by decide +kernel
theorem d_NS_bind_0 : decode b_NS_bind 0 = .ok (.aload_n 0, 1) := by decide +kernel
theorem d_NS_bind_1 : decode b_NS_bind 1 = .ok (.getfield 26, 3) := by decide +kernel
theorem d_NS_bind_4 : decode b_NS_bind 4 = .ok (.invokevirtual 73, 3) := by decide +kernel
theorem d_NS_bind_7 : decode b_NS_bind 7 = .ok (.ifCond .ne 5, 3) := by decide +kernel
theorem d_NS_bind_10 : decode b_NS_bind 10 = .ok (.iconst (-1), 1) := by decide +kernel
theorem d_NS_bind_11 : decode b_NS_bind 11 = .ok (.ireturn, 1) := by decide +kernel
theorem d_NS_bind_12 : decode b_NS_bind 12 = .ok (.aload_n 0, 1) := by decide +kernel
theorem d_NS_bind_13 : decode b_NS_bind 13 = .ok (.getfield 32, 3) := by decide +kernel
theorem d_NS_bind_16 : decode b_NS_bind 16 = .ok (.aload_n 0, 1) := by decide +kernel
theorem d_NS_bind_17 : decode b_NS_bind 17 = .ok (.getfield 26, 3) := by decide +kernel
theorem d_NS_bind_20 : decode b_NS_bind 20 = .ok (.invokevirtual 77, 3) := by decide +kernel
theorem d_NS_bind_23 : decode b_NS_bind 23 = .ok (.aload_n 0, 1) := by decide +kernel
theorem d_NS_bind_24 : decode b_NS_bind 24 = .ok (.getfield 46, 3) := by decide +kernel
theorem d_NS_bind_27 : decode b_NS_bind 27 = .ok (.invokevirtual 70, 3) := by decide +kernel
theorem d_NS_bind_30 : decode b_NS_bind 30 = .ok (.aload_n 0, 1) := by decide +kernel
theorem d_NS_bind_31 : decode b_NS_bind 31 = .ok (.getfield 26, 3) := by decide +kernel
theorem d_NS_bind_34 : decode b_NS_bind 34 = .ok (.invokevirtual 63, 3) := by decide +kernel
theorem d_NS_bind_37 : decode b_NS_bind 37 = .ok (.istore_n 1, 1) := by decide +kernel
theorem d_NS_bind_38 : decode b_NS_bind 38 = .ok (.iconst 0, 1) := by decide +kernel
theorem d_NS_bind_39 : decode b_NS_bind 39 = .ok (.istore_n 2, 1) := by decide +kernel
theorem d_NS_bind_40 : decode b_NS_bind 40 = .ok (.iload_n 2, 1) := by decide +kernel
theorem d_NS_bind_41 : decode b_NS_bind 41 = .ok (.iload_n 1, 1) := by decide +kernel
theorem d_NS_bind_42 : decode b_NS_bind 42 = .ok (.if_icmp .ge 30, 3) := by decide +kernel
theorem d_NS_bind_45 : decode b_NS_bind 45 = .ok (.aload_n 0, 1) := by decide +kernel
theorem d_NS_bind_46 : decode b_NS_bind 46 = .ok (.getfield 32, 3) := by decide +kernel
theorem d_NS_bind_49 : decode b_NS_bind 49 = .ok (.iload_n 2, 1) := by decide +kernel
theorem d_NS_bind_50 : decode b_NS_bind 50 = .ok (.invokevirtual 81, 3) := by decide +kernel
theorem d_NS_bind_53 : decode b_NS_bind 53 = .ok (.aload_n 0, 1) := by decide +kernel
theorem d_NS_bind_54 : decode b_NS_bind 54 = .ok (.iload_n 2, 1) := by decide +kernel
theorem d_NS_bind_55 : decode b_NS_bind 55 = .ok (.invokevirtual 85, 3) := by decide +kernel
theorem d_NS_bind_58 : decode b_NS_bind 58 = .ok (.ifCond .ne 8, 3) := by decide +kernel
theorem d_NS_bind_61 : decode b_NS_bind 61 = .ok (.bipush (-2), 2) := by decide +kernel
theorem d_NS_bind_63 : decode b_NS_bind 63 = .ok (.iload_n 2, 1) := by decide +kernel
theorem d_NS_bind_64 : decode b_NS_bind 64 = .ok (.isub, 1) := by decide +kernel
theorem d_NS_bind_65 : decode b_NS_bind 65 = .ok (.ireturn, 1) := by decide +kernel
theorem d_NS_bind_66 : decode b_NS_bind 66 = .ok (.iinc 2 1, 3) := by decide +kernel
theorem d_NS_bind_69 : decode b_NS_bind 69 = .ok (.goto (-29), 3) := by decide +kernel
theorem d_NS_bind_72 : decode b_NS_bind 72 = .ok (.aload_n 0, 1) := by decide +kernel
theorem d_NS_bind_73 : decode b_NS_bind 73 = .ok (.invokevirtual 89, 3) := by decide +kernel
theorem d_NS_bind_76 : decode b_NS_bind 76 = .ok (.aload_n 0, 1) := by decide +kernel
theorem d_NS_bind_77 : decode b_NS_bind 77 = .ok (.getfield 26, 3) := by decide +kernel
theorem d_NS_bind_80 : decode b_NS_bind 80 = .ok (.invokevirtual 70, 3) := by decide +kernel
theorem d_NS_bind_83 : decode b_NS_bind 83 = .ok (.aload_n 0, 1) := by decide +kernel
theorem d_NS_bind_84 : decode b_NS_bind 84 = .ok (.getfield 43, 3) := by decide +kernel
theorem d_NS_bind_87 : decode b_NS_bind 87 = .ok (.invokevirtual 63, 3) := by decide +kernel
theorem d_NS_bind_90 : decode b_NS_bind 90 = .ok (.ireturn, 1) := by decide +kernel
theorem d_NS_nodes_0 : decode b_NS_nodes 0 = .ok (.aload_n 0, 1) := by decide +kernel
theorem d_NS_nodes_1 : decode b_NS_nodes 1 = .ok (.getfield 43, 3) := by decide +kernel
theorem d_NS_nodes_4 : decode b_NS_nodes 4 = .ok (.invokevirtual 63, 3) := by decide +kernel
theorem d_NS_nodes_7 : decode b_NS_nodes 7 = .ok (.ireturn, 1) := by decide +kernel
theorem d_NS_node_0 : decode b_NS_node 0 = .ok (.aload_n 0, 1) := by decide +kernel
theorem d_NS_node_1 : decode b_NS_node 1 = .ok (.getfield 43, 3) := by decide +kernel
theorem d_NS_node_4 : decode b_NS_node 4 = .ok (.iload_n 1, 1) := by decide +kernel
theorem d_NS_node_5 : decode b_NS_node 5 = .ok (.invokevirtual 92, 3) := by decide +kernel
theorem d_NS_node_8 : decode b_NS_node 8 = .ok (.ifCond .ne 7, 3) := by decide +kernel
theorem d_NS_node_11 : decode b_NS_node 11 = .ok (.ldc2_w 95, 3) := by decide +kernel
theorem d_NS_node_14 : decode b_NS_node 14 = .ok (.lreturn, 1) := by decide +kernel
theorem d_NS_node_15 : decode b_NS_node 15 = .ok (.iload_n 2, 1) := by decide +kernel
theorem d_NS_node_16 : decode b_NS_node 16 = .ok (.tableswitch 57 0 2 #[28, 38, 47], 28) := by decide +kernel
theorem d_NS_node_44 : decode b_NS_node 44 = .ok (.aload_n 0, 1) := by decide +kernel
theorem d_NS_node_45 : decode b_NS_node 45 = .ok (.getfield 43, 3) := by decide +kernel
theorem d_NS_node_48 : decode b_NS_node 48 = .ok (.iload_n 1, 1) := by decide +kernel
theorem d_NS_node_49 : decode b_NS_node 49 = .ok (.invokevirtual 97, 3) := by decide +kernel
theorem d_NS_node_52 : decode b_NS_node 52 = .ok (.i2l, 1) := by decide +kernel
theorem d_NS_node_53 : decode b_NS_node 53 = .ok (.lreturn, 1) := by decide +kernel
theorem d_NS_node_54 : decode b_NS_node 54 = .ok (.aload_n 0, 1) := by decide +kernel
theorem d_NS_node_55 : decode b_NS_node 55 = .ok (.getfield 43, 3) := by decide +kernel
theorem d_NS_node_58 : decode b_NS_node 58 = .ok (.iload_n 1, 1) := by decide +kernel
theorem d_NS_node_59 : decode b_NS_node 59 = .ok (.invokevirtual 101, 3) := by decide +kernel
theorem d_NS_node_62 : decode b_NS_node 62 = .ok (.lreturn, 1) := by decide +kernel
theorem d_NS_node_63 : decode b_NS_node 63 = .ok (.aload_n 0, 1) := by decide +kernel
theorem d_NS_node_64 : decode b_NS_node 64 = .ok (.getfield 43, 3) := by decide +kernel
theorem d_NS_node_67 : decode b_NS_node 67 = .ok (.iload_n 1, 1) := by decide +kernel
theorem d_NS_node_68 : decode b_NS_node 68 = .ok (.invokevirtual 105, 3) := by decide +kernel
theorem d_NS_node_71 : decode b_NS_node 71 = .ok (.i2l, 1) := by decide +kernel
theorem d_NS_node_72 : decode b_NS_node 72 = .ok (.lreturn, 1) := by decide +kernel
theorem d_NS_node_73 : decode b_NS_node 73 = .ok (.ldc2_w 95, 3) := by decide +kernel
theorem d_NS_node_76 : decode b_NS_node 76 = .ok (.lreturn, 1) := by decide +kernel
theorem d_NS_uses_0 : decode b_NS_uses 0 = .ok (.aload_n 0, 1) := by decide +kernel
theorem d_NS_uses_1 : decode b_NS_uses 1 = .ok (.getfield 43, 3) := by decide +kernel
theorem d_NS_uses_4 : decode b_NS_uses 4 = .ok (.iload_n 1, 1) := by decide +kernel
theorem d_NS_uses_5 : decode b_NS_uses 5 = .ok (.invokevirtual 92, 3) := by decide +kernel
theorem d_NS_uses_8 : decode b_NS_uses 8 = .ok (.ifCond .eq 17, 3) := by decide +kernel
theorem d_NS_uses_11 : decode b_NS_uses 11 = .ok (.aload_n 0, 1) := by decide +kernel
theorem d_NS_uses_12 : decode b_NS_uses 12 = .ok (.getfield 43, 3) := by decide +kernel
theorem d_NS_uses_15 : decode b_NS_uses 15 = .ok (.iload_n 1, 1) := by decide +kernel
theorem d_NS_uses_16 : decode b_NS_uses 16 = .ok (.invokevirtual 97, 3) := by decide +kernel
theorem d_NS_uses_19 : decode b_NS_uses 19 = .ok (.invokestatic 108, 3) := by decide +kernel
theorem d_NS_uses_22 : decode b_NS_uses 22 = .ok (.ifCond .ne 5, 3) := by decide +kernel
theorem d_NS_uses_25 : decode b_NS_uses 25 = .ok (.iconst (-1), 1) := by decide +kernel
theorem d_NS_uses_26 : decode b_NS_uses 26 = .ok (.ireturn, 1) := by decide +kernel
theorem d_NS_uses_27 : decode b_NS_uses 27 = .ok (.aload_n 0, 1) := by decide +kernel
theorem d_NS_uses_28 : decode b_NS_uses 28 = .ok (.getfield 32, 3) := by decide +kernel
theorem d_NS_uses_31 : decode b_NS_uses 31 = .ok (.aload_n 0, 1) := by decide +kernel
theorem d_NS_uses_32 : decode b_NS_uses 32 = .ok (.getfield 43, 3) := by decide +kernel
theorem d_NS_uses_35 : decode b_NS_uses 35 = .ok (.invokevirtual 77, 3) := by decide +kernel
theorem d_NS_uses_38 : decode b_NS_uses 38 = .ok (.aload_n 0, 1) := by decide +kernel
theorem d_NS_uses_39 : decode b_NS_uses 39 = .ok (.iload_n 1, 1) := by decide +kernel
theorem d_NS_uses_40 : decode b_NS_uses 40 = .ok (.invokevirtual 111, 3) := by decide +kernel
theorem d_NS_uses_43 : decode b_NS_uses 43 = .ok (.ireturn, 1) := by decide +kernel
theorem d_NS_contract_0 : decode b_NS_contract 0 = .ok (.aload_n 0, 1) := by decide +kernel
theorem d_NS_contract_1 : decode b_NS_contract 1 = .ok (.iload_n 1, 1) := by decide +kernel
theorem d_NS_contract_2 : decode b_NS_contract 2 = .ok (.invokevirtual 114, 3) := by decide +kernel
theorem d_NS_contract_5 : decode b_NS_contract 5 = .ok (.istore_n 2, 1) := by decide +kernel
theorem d_NS_contract_6 : decode b_NS_contract 6 = .ok (.iload_n 2, 1) := by decide +kernel
theorem d_NS_contract_7 : decode b_NS_contract 7 = .ok (.iconst (-1), 1) := by decide +kernel
theorem d_NS_contract_8 : decode b_NS_contract 8 = .ok (.if_icmp .ne 5, 3) := by decide +kernel
theorem d_NS_contract_11 : decode b_NS_contract 11 = .ok (.iconst (-1), 1) := by decide +kernel
theorem d_NS_contract_12 : decode b_NS_contract 12 = .ok (.ireturn, 1) := by decide +kernel
theorem d_NS_contract_13 : decode b_NS_contract 13 = .ok (.iload_n 2, 1) := by decide +kernel
theorem d_NS_contract_14 : decode b_NS_contract 14 = .ok (.iload_n 1, 1) := by decide +kernel
theorem d_NS_contract_15 : decode b_NS_contract 15 = .ok (.if_icmp .ne 9, 3) := by decide +kernel
theorem d_NS_contract_18 : decode b_NS_contract 18 = .ok (.iload_n 1, 1) := by decide +kernel
theorem d_NS_contract_19 : decode b_NS_contract 19 = .ok (.iconst 1, 1) := by decide +kernel
theorem d_NS_contract_20 : decode b_NS_contract 20 = .ok (.iadd, 1) := by decide +kernel
theorem d_NS_contract_21 : decode b_NS_contract 21 = .ok (.goto 11, 3) := by decide +kernel
theorem d_NS_contract_24 : decode b_NS_contract 24 = .ok (.aload_n 0, 1) := by decide +kernel
theorem d_NS_contract_25 : decode b_NS_contract 25 = .ok (.getfield 43, 3) := by decide +kernel
theorem d_NS_contract_28 : decode b_NS_contract 28 = .ok (.iload_n 1, 1) := by decide +kernel
theorem d_NS_contract_29 : decode b_NS_contract 29 = .ok (.invokevirtual 117, 3) := by decide +kernel
theorem d_NS_contract_32 : decode b_NS_contract 32 = .ok (.istore_n 3, 1) := by decide +kernel
theorem d_NS_contract_33 : decode b_NS_contract 33 = .ok (.aload_n 0, 1) := by decide +kernel
theorem d_NS_contract_34 : decode b_NS_contract 34 = .ok (.getfield 32, 3) := by decide +kernel
theorem d_NS_contract_37 : decode b_NS_contract 37 = .ok (.aload_n 0, 1) := by decide +kernel
theorem d_NS_contract_38 : decode b_NS_contract 38 = .ok (.getfield 43, 3) := by decide +kernel
theorem d_NS_contract_41 : decode b_NS_contract 41 = .ok (.invokevirtual 77, 3) := by decide +kernel
theorem d_NS_contract_44 : decode b_NS_contract 44 = .ok (.aload_n 0, 1) := by decide +kernel
theorem d_NS_contract_45 : decode b_NS_contract 45 = .ok (.getfield 43, 3) := by decide +kernel
theorem d_NS_contract_48 : decode b_NS_contract 48 = .ok (.invokevirtual 63, 3) := by decide +kernel
theorem d_NS_contract_51 : decode b_NS_contract 51 = .ok (.aload_n 0, 1) := by decide +kernel
theorem d_NS_contract_52 : decode b_NS_contract 52 = .ok (.getfield 43, 3) := by decide +kernel
theorem d_NS_contract_55 : decode b_NS_contract 55 = .ok (.iload_n 1, 1) := by decide +kernel
theorem d_NS_contract_56 : decode b_NS_contract 56 = .ok (.invokevirtual 105, 3) := by decide +kernel
theorem d_NS_contract_59 : decode b_NS_contract 59 = .ok (.isub, 1) := by decide +kernel
theorem d_NS_contract_60 : decode b_NS_contract 60 = .ok (.istore 4, 2) := by decide +kernel
theorem d_NS_contract_62 : decode b_NS_contract 62 = .ok (.aload_n 0, 1) := by decide +kernel
theorem d_NS_contract_63 : decode b_NS_contract 63 = .ok (.getfield 43, 3) := by decide +kernel
theorem d_NS_contract_66 : decode b_NS_contract 66 = .ok (.iload_n 2, 1) := by decide +kernel
theorem d_NS_contract_67 : decode b_NS_contract 67 = .ok (.invokevirtual 120, 3) := by decide +kernel
theorem d_NS_contract_70 : decode b_NS_contract 70 = .ok (.aload_n 0, 1) := by decide +kernel
theorem d_NS_contract_71 : decode b_NS_contract 71 = .ok (.getfield 43, 3) := by decide +kernel
theorem d_NS_contract_74 : decode b_NS_contract 74 = .ok (.iload_n 2, 1) := by decide +kernel
theorem d_NS_contract_75 : decode b_NS_contract 75 = .ok (.invokevirtual 117, 3) := by decide +kernel
theorem d_NS_contract_78 : decode b_NS_contract 78 = .ok (.isub, 1) := by decide +kernel
theorem d_NS_contract_79 : decode b_NS_contract 79 = .ok (.istore 5, 2) := by decide +kernel
theorem d_NS_contract_81 : decode b_NS_contract 81 = .ok (.iload 4, 2) := by decide +kernel
theorem d_NS_contract_83 : decode b_NS_contract 83 = .ok (.iload 5, 2) := by decide +kernel
theorem d_NS_contract_85 : decode b_NS_contract 85 = .ok (.iadd, 1) := by decide +kernel
theorem d_NS_contract_86 : decode b_NS_contract 86 = .ok (.aload_n 0, 1) := by decide +kernel
theorem d_NS_contract_87 : decode b_NS_contract 87 = .ok (.iload_n 2, 1) := by decide +kernel
theorem d_NS_contract_88 : decode b_NS_contract 88 = .ok (.invokevirtual 111, 3) := by decide +kernel
theorem d_NS_contract_91 : decode b_NS_contract 91 = .ok (.aload_n 0, 1) := by decide +kernel
theorem d_NS_contract_92 : decode b_NS_contract 92 = .ok (.getfield 43, 3) := by decide +kernel
theorem d_NS_contract_95 : decode b_NS_contract 95 = .ok (.iload_n 3, 1) := by decide +kernel
theorem d_NS_contract_96 : decode b_NS_contract 96 = .ok (.invokevirtual 105, 3) := by decide +kernel
theorem d_NS_contract_99 : decode b_NS_contract 99 = .ok (.iconst 1, 1) := by decide +kernel
theorem d_NS_contract_100 : decode b_NS_contract 100 = .ok (.isub, 1) := by decide +kernel
theorem d_NS_contract_101 : decode b_NS_contract 101 = .ok (.imul, 1) := by decide +kernel
theorem d_NS_contract_102 : decode b_NS_contract 102 = .ok (.iadd, 1) := by decide +kernel
theorem d_NS_contract_103 : decode b_NS_contract 103 = .ok (.sipush 3000, 3) := by decide +kernel
theorem d_NS_contract_106 : decode b_NS_contract 106 = .ok (.if_icmp .le 6, 3) := by decide +kernel
theorem d_NS_contract_109 : decode b_NS_contract 109 = .ok (.bipush (-2), 2) := by decide +kernel
theorem d_NS_contract_111 : decode b_NS_contract 111 = .ok (.ireturn, 1) := by decide +kernel
theorem d_NS_contract_112 : decode b_NS_contract 112 = .ok (.aload_n 0, 1) := by decide +kernel
theorem d_NS_contract_113 : decode b_NS_contract 113 = .ok (.getfield 46, 3) := by decide +kernel
theorem d_NS_contract_116 : decode b_NS_contract 116 = .ok (.invokevirtual 70, 3) := by decide +kernel
theorem d_NS_contract_119 : decode b_NS_contract 119 = .ok (.aload_n 0, 1) := by decide +kernel
theorem d_NS_contract_120 : decode b_NS_contract 120 = .ok (.iconst 0, 1) := by decide +kernel
theorem d_NS_contract_121 : decode b_NS_contract 121 = .ok (.iload_n 1, 1) := by decide +kernel
theorem d_NS_contract_122 : decode b_NS_contract 122 = .ok (.invokevirtual 123, 3) := by decide +kernel
theorem d_NS_contract_125 : decode b_NS_contract 125 = .ok (.aload_n 0, 1) := by decide +kernel
theorem d_NS_contract_126 : decode b_NS_contract 126 = .ok (.iload_n 2, 1) := by decide +kernel
theorem d_NS_contract_127 : decode b_NS_contract 127 = .ok (.iload_n 3, 1) := by decide +kernel
theorem d_NS_contract_128 : decode b_NS_contract 128 = .ok (.invokevirtual 127, 3) := by decide +kernel
theorem d_NS_contract_131 : decode b_NS_contract 131 = .ok (.aload_n 0, 1) := by decide +kernel
theorem d_NS_contract_132 : decode b_NS_contract 132 = .ok (.aload_n 0, 1) := by decide +kernel
theorem d_NS_contract_133 : decode b_NS_contract 133 = .ok (.getfield 43, 3) := by decide +kernel
theorem d_NS_contract_136 : decode b_NS_contract 136 = .ok (.iload_n 1, 1) := by decide +kernel
theorem d_NS_contract_137 : decode b_NS_contract 137 = .ok (.invokevirtual 120, 3) := by decide +kernel
theorem d_NS_contract_140 : decode b_NS_contract 140 = .ok (.aload_n 0, 1) := by decide +kernel
theorem d_NS_contract_141 : decode b_NS_contract 141 = .ok (.getfield 43, 3) := by decide +kernel
theorem d_NS_contract_144 : decode b_NS_contract 144 = .ok (.invokevirtual 63, 3) := by decide +kernel
theorem d_NS_contract_147 : decode b_NS_contract 147 = .ok (.invokevirtual 123, 3) := by decide +kernel
theorem d_NS_contract_150 : decode b_NS_contract 150 = .ok (.aload_n 0, 1) := by decide +kernel
theorem d_NS_contract_151 : decode b_NS_contract 151 = .ok (.invokevirtual 89, 3) := by decide +kernel
theorem d_NS_contract_154 : decode b_NS_contract 154 = .ok (.aload_n 0, 1) := by decide +kernel
theorem d_NS_contract_155 : decode b_NS_contract 155 = .ok (.getfield 43, 3) := by decide +kernel
theorem d_NS_contract_158 : decode b_NS_contract 158 = .ok (.invokevirtual 63, 3) := by decide +kernel
theorem d_NS_contract_161 : decode b_NS_contract 161 = .ok (.ireturn, 1) := by decide +kernel
theorem d_NS_write_0 : decode b_NS_write 0 = .ok (.aload_n 0, 1) := by decide +kernel
theorem d_NS_write_1 : decode b_NS_write 1 = .ok (.getfield 43, 3) := by decide +kernel
theorem d_NS_write_4 : decode b_NS_write 4 = .ok (.invokevirtual 63, 3) := by decide +kernel
theorem d_NS_write_7 : decode b_NS_write 7 = .ok (.ifCond .ne 5, 3) := by decide +kernel
theorem d_NS_write_10 : decode b_NS_write 10 = .ok (.iconst (-1), 1) := by decide +kernel
theorem d_NS_write_11 : decode b_NS_write 11 = .ok (.ireturn, 1) := by decide +kernel
theorem d_NS_write_12 : decode b_NS_write 12 = .ok (.aload_n 0, 1) := by decide +kernel
theorem d_NS_write_13 : decode b_NS_write 13 = .ok (.getfield 39, 3) := by decide +kernel
theorem d_NS_write_16 : decode b_NS_write 16 = .ok (.aload_n 0, 1) := by decide +kernel
theorem d_NS_write_17 : decode b_NS_write 17 = .ok (.getfield 43, 3) := by decide +kernel
theorem d_NS_write_20 : decode b_NS_write 20 = .ok (.aload_n 0, 1) := by decide +kernel
theorem d_NS_write_21 : decode b_NS_write 21 = .ok (.getfield 10, 3) := by decide +kernel
theorem d_NS_write_24 : decode b_NS_write 24 = .ok (.aload_n 0, 1) := by decide +kernel
theorem d_NS_write_25 : decode b_NS_write 25 = .ok (.getfield 23, 3) := by decide +kernel
theorem d_NS_write_28 : decode b_NS_write 28 = .ok (.invokevirtual 130, 3) := by decide +kernel
theorem d_NS_write_31 : decode b_NS_write 31 = .ok (.aload_n 0, 1) := by decide +kernel
theorem d_NS_write_32 : decode b_NS_write 32 = .ok (.getfield 23, 3) := by decide +kernel
theorem d_NS_write_35 : decode b_NS_write 35 = .ok (.invokevirtual 63, 3) := by decide +kernel
theorem d_NS_write_38 : decode b_NS_write 38 = .ok (.ireturn, 1) := by decide +kernel
theorem d_NS_written_0 : decode b_NS_written 0 = .ok (.aload_n 0, 1) := by decide +kernel
theorem d_NS_written_1 : decode b_NS_written 1 = .ok (.getfield 23, 3) := by decide +kernel
theorem d_NS_written_4 : decode b_NS_written 4 = .ok (.iload_n 1, 1) := by decide +kernel
theorem d_NS_written_5 : decode b_NS_written 5 = .ok (.invokevirtual 92, 3) := by decide +kernel
theorem d_NS_written_8 : decode b_NS_written 8 = .ok (.ifCond .ne 7, 3) := by decide +kernel
theorem d_NS_written_11 : decode b_NS_written 11 = .ok (.ldc2_w 95, 3) := by decide +kernel
theorem d_NS_written_14 : decode b_NS_written 14 = .ok (.lreturn, 1) := by decide +kernel
theorem d_NS_written_15 : decode b_NS_written 15 = .ok (.iload_n 2, 1) := by decide +kernel
theorem d_NS_written_16 : decode b_NS_written 16 = .ok (.lookupswitch 47 #[(0, 28), (1, 38)], 28) := by decide +kernel
theorem d_NS_written_44 : decode b_NS_written 44 = .ok (.aload_n 0, 1) := by decide +kernel
theorem d_NS_written_45 : decode b_NS_written 45 = .ok (.getfield 23, 3) := by decide +kernel
theorem d_NS_written_48 : decode b_NS_written 48 = .ok (.iload_n 1, 1) := by decide +kernel
theorem d_NS_written_49 : decode b_NS_written 49 = .ok (.invokevirtual 97, 3) := by decide +kernel
theorem d_NS_written_52 : decode b_NS_written 52 = .ok (.i2l, 1) := by decide +kernel
theorem d_NS_written_53 : decode b_NS_written 53 = .ok (.lreturn, 1) := by decide +kernel
theorem d_NS_written_54 : decode b_NS_written 54 = .ok (.aload_n 0, 1) := by decide +kernel
theorem d_NS_written_55 : decode b_NS_written 55 = .ok (.getfield 23, 3) := by decide +kernel
theorem d_NS_written_58 : decode b_NS_written 58 = .ok (.iload_n 1, 1) := by decide +kernel
theorem d_NS_written_59 : decode b_NS_written 59 = .ok (.invokevirtual 101, 3) := by decide +kernel
theorem d_NS_written_62 : decode b_NS_written 62 = .ok (.lreturn, 1) := by decide +kernel
theorem d_NS_written_63 : decode b_NS_written 63 = .ok (.ldc2_w 95, 3) := by decide +kernel
theorem d_NS_written_66 : decode b_NS_written 66 = .ok (.lreturn, 1) := by decide +kernel
theorem d_NS_again_0 : decode b_NS_again 0 = .ok (.aload_n 0, 1) := by decide +kernel
theorem d_NS_again_1 : decode b_NS_again 1 = .ok (.getfield 26, 3) := by decide +kernel
theorem d_NS_again_4 : decode b_NS_again 4 = .ok (.aload_n 0, 1) := by decide +kernel
theorem d_NS_again_5 : decode b_NS_again 5 = .ok (.getfield 23, 3) := by decide +kernel
theorem d_NS_again_8 : decode b_NS_again 8 = .ok (.invokevirtual 134, 3) := by decide +kernel
theorem d_NS_again_11 : decode b_NS_again 11 = .ok (.aload_n 0, 1) := by decide +kernel
theorem d_NS_again_12 : decode b_NS_again 12 = .ok (.getfield 26, 3) := by decide +kernel
theorem d_NS_again_15 : decode b_NS_again 15 = .ok (.invokevirtual 63, 3) := by decide +kernel
theorem d_NS_again_18 : decode b_NS_again 18 = .ok (.ireturn, 1) := by decide +kernel
theorem d_NS_keep_0 : decode b_NS_keep 0 = .ok (.aload_n 0, 1) := by decide +kernel
theorem d_NS_keep_1 : decode b_NS_keep 1 = .ok (.getfield 19, 3) := by decide +kernel
theorem d_NS_keep_4 : decode b_NS_keep 4 = .ok (.aload_n 0, 1) := by decide +kernel
theorem d_NS_keep_5 : decode b_NS_keep 5 = .ok (.getfield 43, 3) := by decide +kernel
theorem d_NS_keep_8 : decode b_NS_keep 8 = .ok (.invokevirtual 134, 3) := by decide +kernel
theorem d_NS_keep_11 : decode b_NS_keep 11 = .ok (.aload_n 0, 1) := by decide +kernel
theorem d_NS_keep_12 : decode b_NS_keep 12 = .ok (.getfield 19, 3) := by decide +kernel
theorem d_NS_keep_15 : decode b_NS_keep 15 = .ok (.invokevirtual 63, 3) := by decide +kernel
theorem d_NS_keep_18 : decode b_NS_keep 18 = .ok (.ireturn, 1) := by decide +kernel
theorem d_NS_same_0 : decode b_NS_same 0 = .ok (.aload_n 0, 1) := by decide +kernel
theorem d_NS_same_1 : decode b_NS_same 1 = .ok (.getfield 43, 3) := by decide +kernel
theorem d_NS_same_4 : decode b_NS_same 4 = .ok (.invokevirtual 63, 3) := by decide +kernel
theorem d_NS_same_7 : decode b_NS_same 7 = .ok (.istore_n 1, 1) := by decide +kernel
theorem d_NS_same_8 : decode b_NS_same 8 = .ok (.iload_n 1, 1) := by decide +kernel
theorem d_NS_same_9 : decode b_NS_same 9 = .ok (.aload_n 0, 1) := by decide +kernel
theorem d_NS_same_10 : decode b_NS_same 10 = .ok (.getfield 19, 3) := by decide +kernel
theorem d_NS_same_13 : decode b_NS_same 13 = .ok (.invokevirtual 63, 3) := by decide +kernel
theorem d_NS_same_16 : decode b_NS_same 16 = .ok (.if_icmp .eq 5, 3) := by decide +kernel
theorem d_NS_same_19 : decode b_NS_same 19 = .ok (.iconst 0, 1) := by decide +kernel
theorem d_NS_same_20 : decode b_NS_same 20 = .ok (.ireturn, 1) := by decide +kernel
theorem d_NS_same_21 : decode b_NS_same 21 = .ok (.iconst 0, 1) := by decide +kernel
theorem d_NS_same_22 : decode b_NS_same 22 = .ok (.istore_n 2, 1) := by decide +kernel
theorem d_NS_same_23 : decode b_NS_same 23 = .ok (.iload_n 2, 1) := by decide +kernel
theorem d_NS_same_24 : decode b_NS_same 24 = .ok (.iload_n 1, 1) := by decide +kernel
theorem d_NS_same_25 : decode b_NS_same 25 = .ok (.if_icmp .ge 61, 3) := by decide +kernel
theorem d_NS_same_28 : decode b_NS_same 28 = .ok (.aload_n 0, 1) := by decide +kernel
theorem d_NS_same_29 : decode b_NS_same 29 = .ok (.getfield 43, 3) := by decide +kernel
theorem d_NS_same_32 : decode b_NS_same 32 = .ok (.iload_n 2, 1) := by decide +kernel
theorem d_NS_same_33 : decode b_NS_same 33 = .ok (.invokevirtual 97, 3) := by decide +kernel
theorem d_NS_same_36 : decode b_NS_same 36 = .ok (.istore_n 3, 1) := by decide +kernel
theorem d_NS_same_37 : decode b_NS_same 37 = .ok (.iload_n 3, 1) := by decide +kernel
theorem d_NS_same_38 : decode b_NS_same 38 = .ok (.aload_n 0, 1) := by decide +kernel
theorem d_NS_same_39 : decode b_NS_same 39 = .ok (.getfield 19, 3) := by decide +kernel
theorem d_NS_same_42 : decode b_NS_same 42 = .ok (.iload_n 2, 1) := by decide +kernel
theorem d_NS_same_43 : decode b_NS_same 43 = .ok (.invokevirtual 97, 3) := by decide +kernel
theorem d_NS_same_46 : decode b_NS_same 46 = .ok (.if_icmp .eq 5, 3) := by decide +kernel
theorem d_NS_same_49 : decode b_NS_same 49 = .ok (.iconst 0, 1) := by decide +kernel
theorem d_NS_same_50 : decode b_NS_same 50 = .ok (.ireturn, 1) := by decide +kernel
theorem d_NS_same_51 : decode b_NS_same 51 = .ok (.iload_n 3, 1) := by decide +kernel
theorem d_NS_same_52 : decode b_NS_same 52 = .ok (.invokestatic 108, 3) := by decide +kernel
theorem d_NS_same_55 : decode b_NS_same 55 = .ok (.ifCond .ne 25, 3) := by decide +kernel
theorem d_NS_same_58 : decode b_NS_same 58 = .ok (.aload_n 0, 1) := by decide +kernel
theorem d_NS_same_59 : decode b_NS_same 59 = .ok (.getfield 43, 3) := by decide +kernel
theorem d_NS_same_62 : decode b_NS_same 62 = .ok (.iload_n 2, 1) := by decide +kernel
theorem d_NS_same_63 : decode b_NS_same 63 = .ok (.invokevirtual 101, 3) := by decide +kernel
theorem d_NS_same_66 : decode b_NS_same 66 = .ok (.aload_n 0, 1) := by decide +kernel
theorem d_NS_same_67 : decode b_NS_same 67 = .ok (.getfield 19, 3) := by decide +kernel
theorem d_NS_same_70 : decode b_NS_same 70 = .ok (.iload_n 2, 1) := by decide +kernel
theorem d_NS_same_71 : decode b_NS_same 71 = .ok (.invokevirtual 101, 3) := by decide +kernel
theorem d_NS_same_74 : decode b_NS_same 74 = .ok (.lcmp, 1) := by decide +kernel
theorem d_NS_same_75 : decode b_NS_same 75 = .ok (.ifCond .eq 5, 3) := by decide +kernel
theorem d_NS_same_78 : decode b_NS_same 78 = .ok (.iconst 0, 1) := by decide +kernel
theorem d_NS_same_79 : decode b_NS_same 79 = .ok (.ireturn, 1) := by decide +kernel
theorem d_NS_same_80 : decode b_NS_same 80 = .ok (.iinc 2 1, 3) := by decide +kernel
theorem d_NS_same_83 : decode b_NS_same 83 = .ok (.goto (-60), 3) := by decide +kernel
theorem d_NS_same_86 : decode b_NS_same 86 = .ok (.iconst 1, 1) := by decide +kernel
theorem d_NS_same_87 : decode b_NS_same 87 = .ok (.ireturn, 1) := by decide +kernel
theorem d_NS_canBeBeside_0 : decode b_NS_canBeBeside 0 = .ok (.iload_n 0, 1) := by decide +kernel
theorem d_NS_canBeBeside_1 : decode b_NS_canBeBeside 1 = .ok (.tableswitch 80 0 6 #[43, 43, 43, 43, 68, 48, 68], 43) := by decide +kernel
theorem d_NS_canBeBeside_44 : decode b_NS_canBeBeside 44 = .ok (.lload_n 1, 1) := by decide +kernel
theorem d_NS_canBeBeside_45 : decode b_NS_canBeBeside 45 = .ok (.invokestatic 49, 3) := by decide +kernel
theorem d_NS_canBeBeside_48 : decode b_NS_canBeBeside 48 = .ok (.ireturn, 1) := by decide +kernel
theorem d_NS_canBeBeside_49 : decode b_NS_canBeBeside 49 = .ok (.lload_n 1, 1) := by decide +kernel
theorem d_NS_canBeBeside_50 : decode b_NS_canBeBeside 50 = .ok (.lconst 0, 1) := by decide +kernel
theorem d_NS_canBeBeside_51 : decode b_NS_canBeBeside 51 = .ok (.lcmp, 1) := by decide +kernel
theorem d_NS_canBeBeside_52 : decode b_NS_canBeBeside 52 = .ok (.ifCond .lt 15, 3) := by decide +kernel
theorem d_NS_canBeBeside_55 : decode b_NS_canBeBeside 55 = .ok (.lload_n 1, 1) := by decide +kernel
theorem d_NS_canBeBeside_56 : decode b_NS_canBeBeside 56 = .ok (.ldc2_w 137, 3) := by decide +kernel
theorem d_NS_canBeBeside_59 : decode b_NS_canBeBeside 59 = .ok (.lcmp, 1) := by decide +kernel
theorem d_NS_canBeBeside_60 : decode b_NS_canBeBeside 60 = .ok (.ifCond .gt 7, 3) := by decide +kernel
theorem d_NS_canBeBeside_63 : decode b_NS_canBeBeside 63 = .ok (.iconst 1, 1) := by decide +kernel
theorem d_NS_canBeBeside_64 : decode b_NS_canBeBeside 64 = .ok (.goto 4, 3) := by decide +kernel
theorem d_NS_canBeBeside_67 : decode b_NS_canBeBeside 67 = .ok (.iconst 0, 1) := by decide +kernel
theorem d_NS_canBeBeside_68 : decode b_NS_canBeBeside 68 = .ok (.ireturn, 1) := by decide +kernel
theorem d_NS_canBeBeside_69 : decode b_NS_canBeBeside 69 = .ok (.lload_n 1, 1) := by decide +kernel
theorem d_NS_canBeBeside_70 : decode b_NS_canBeBeside 70 = .ok (.lconst 0, 1) := by decide +kernel
theorem d_NS_canBeBeside_71 : decode b_NS_canBeBeside 71 = .ok (.lcmp, 1) := by decide +kernel
theorem d_NS_canBeBeside_72 : decode b_NS_canBeBeside 72 = .ok (.ifCond .ne 7, 3) := by decide +kernel
theorem d_NS_canBeBeside_75 : decode b_NS_canBeBeside 75 = .ok (.iconst 1, 1) := by decide +kernel
theorem d_NS_canBeBeside_76 : decode b_NS_canBeBeside 76 = .ok (.goto 4, 3) := by decide +kernel
theorem d_NS_canBeBeside_79 : decode b_NS_canBeBeside 79 = .ok (.iconst 0, 1) := by decide +kernel
theorem d_NS_canBeBeside_80 : decode b_NS_canBeBeside 80 = .ok (.ireturn, 1) := by decide +kernel
theorem d_NS_canBeBeside_81 : decode b_NS_canBeBeside 81 = .ok (.iconst 0, 1) := by decide +kernel
theorem d_NS_canBeBeside_82 : decode b_NS_canBeBeside 82 = .ok (.ireturn, 1) := by decide +kernel
theorem d_NS_isBinder_0 : decode b_NS_isBinder 0 = .ok (.iload_n 0, 1) := by decide +kernel
theorem d_NS_isBinder_1 : decode b_NS_isBinder 1 = .ok (.iconst 1, 1) := by decide +kernel
theorem d_NS_isBinder_2 : decode b_NS_isBinder 2 = .ok (.if_icmp .eq 19, 3) := by decide +kernel
theorem d_NS_isBinder_5 : decode b_NS_isBinder 5 = .ok (.iload_n 0, 1) := by decide +kernel
theorem d_NS_isBinder_6 : decode b_NS_isBinder 6 = .ok (.iconst 2, 1) := by decide +kernel
theorem d_NS_isBinder_7 : decode b_NS_isBinder 7 = .ok (.if_icmp .eq 14, 3) := by decide +kernel
theorem d_NS_isBinder_10 : decode b_NS_isBinder 10 = .ok (.iload_n 0, 1) := by decide +kernel
theorem d_NS_isBinder_11 : decode b_NS_isBinder 11 = .ok (.iconst 3, 1) := by decide +kernel
theorem d_NS_isBinder_12 : decode b_NS_isBinder 12 = .ok (.if_icmp .eq 9, 3) := by decide +kernel
theorem d_NS_isBinder_15 : decode b_NS_isBinder 15 = .ok (.iload_n 0, 1) := by decide +kernel
theorem d_NS_isBinder_16 : decode b_NS_isBinder 16 = .ok (.bipush 6, 2) := by decide +kernel
theorem d_NS_isBinder_18 : decode b_NS_isBinder 18 = .ok (.if_icmp .ne 7, 3) := by decide +kernel
theorem d_NS_isBinder_21 : decode b_NS_isBinder 21 = .ok (.iconst 1, 1) := by decide +kernel
theorem d_NS_isBinder_22 : decode b_NS_isBinder 22 = .ok (.goto 4, 3) := by decide +kernel
theorem d_NS_isBinder_25 : decode b_NS_isBinder 25 = .ok (.iconst 0, 1) := by decide +kernel
theorem d_NS_isBinder_26 : decode b_NS_isBinder 26 = .ok (.ireturn, 1) := by decide +kernel
theorem d_NS_hasParts_0 : decode b_NS_hasParts 0 = .ok (.iload_n 0, 1) := by decide +kernel
theorem d_NS_hasParts_1 : decode b_NS_hasParts 1 = .ok (.invokestatic 108, 3) := by decide +kernel
theorem d_NS_hasParts_4 : decode b_NS_hasParts 4 = .ok (.ifCond .ne 8, 3) := by decide +kernel
theorem d_NS_hasParts_7 : decode b_NS_hasParts 7 = .ok (.iload_n 0, 1) := by decide +kernel
theorem d_NS_hasParts_8 : decode b_NS_hasParts 8 = .ok (.iconst 4, 1) := by decide +kernel
theorem d_NS_hasParts_9 : decode b_NS_hasParts 9 = .ok (.if_icmp .ne 7, 3) := by decide +kernel
theorem d_NS_hasParts_12 : decode b_NS_hasParts 12 = .ok (.iconst 1, 1) := by decide +kernel
theorem d_NS_hasParts_13 : decode b_NS_hasParts 13 = .ok (.goto 4, 3) := by decide +kernel
theorem d_NS_hasParts_16 : decode b_NS_hasParts 16 = .ok (.iconst 0, 1) := by decide +kernel
theorem d_NS_hasParts_17 : decode b_NS_hasParts 17 = .ok (.ireturn, 1) := by decide +kernel
theorem d_NS_longer_0 : decode b_NS_longer 0 = .ok (.iload_n 1, 1) := by decide +kernel
theorem d_NS_longer_1 : decode b_NS_longer 1 = .ok (.iconst 2, 1) := by decide +kernel
theorem d_NS_longer_2 : decode b_NS_longer 2 = .ok (.iload_n 0, 1) := by decide +kernel
theorem d_NS_longer_3 : decode b_NS_longer 3 = .ok (.imul, 1) := by decide +kernel
theorem d_NS_longer_4 : decode b_NS_longer 4 = .ok (.invokestatic 139, 3) := by decide +kernel
theorem d_NS_longer_7 : decode b_NS_longer 7 = .ok (.ireturn, 1) := by decide +kernel
theorem d_NS_takeSpare_0 : decode b_NS_takeSpare 0 = .ok (.aload_n 0, 1) := by decide +kernel
theorem d_NS_takeSpare_1 : decode b_NS_takeSpare 1 = .ok (.getfield 43, 3) := by decide +kernel
theorem d_NS_takeSpare_4 : decode b_NS_takeSpare 4 = .ok (.astore_n 1, 1) := by decide +kernel
theorem d_NS_takeSpare_5 : decode b_NS_takeSpare 5 = .ok (.aload_n 0, 1) := by decide +kernel
theorem d_NS_takeSpare_6 : decode b_NS_takeSpare 6 = .ok (.aload_n 0, 1) := by decide +kernel
theorem d_NS_takeSpare_7 : decode b_NS_takeSpare 7 = .ok (.getfield 46, 3) := by decide +kernel
theorem d_NS_takeSpare_10 : decode b_NS_takeSpare 10 = .ok (.putfield 43, 3) := by decide +kernel
theorem d_NS_takeSpare_13 : decode b_NS_takeSpare 13 = .ok (.aload_n 0, 1) := by decide +kernel
theorem d_NS_takeSpare_14 : decode b_NS_takeSpare 14 = .ok (.aload_n 1, 1) := by decide +kernel
theorem d_NS_takeSpare_15 : decode b_NS_takeSpare 15 = .ok (.putfield 46, 3) := by decide +kernel
theorem d_NS_takeSpare_18 : decode b_NS_takeSpare 18 = .ok (.aload_n 0, 1) := by decide +kernel
theorem d_NS_takeSpare_19 : decode b_NS_takeSpare 19 = .ok (.getfield 43, 3) := by decide +kernel
theorem d_NS_takeSpare_22 : decode b_NS_takeSpare 22 = .ok (.invokevirtual 73, 3) := by decide +kernel
theorem d_NS_takeSpare_25 : decode b_NS_takeSpare 25 = .ok (.pop, 1) := by decide +kernel
theorem d_NS_takeSpare_26 : decode b_NS_takeSpare 26 = .ok (.return_, 1) := by decide +kernel
theorem d_NS_bindNode_0 : decode b_NS_bindNode 0 = .ok (.aload_n 0, 1) := by decide +kernel
theorem d_NS_bindNode_1 : decode b_NS_bindNode 1 = .ok (.getfield 26, 3) := by decide +kernel
theorem d_NS_bindNode_4 : decode b_NS_bindNode 4 = .ok (.iload_n 1, 1) := by decide +kernel
theorem d_NS_bindNode_5 : decode b_NS_bindNode 5 = .ok (.invokevirtual 97, 3) := by decide +kernel
theorem d_NS_bindNode_8 : decode b_NS_bindNode 8 = .ok (.istore_n 2, 1) := by decide +kernel
theorem d_NS_bindNode_9 : decode b_NS_bindNode 9 = .ok (.aload_n 0, 1) := by decide +kernel
theorem d_NS_bindNode_10 : decode b_NS_bindNode 10 = .ok (.getfield 26, 3) := by decide +kernel
theorem d_NS_bindNode_13 : decode b_NS_bindNode 13 = .ok (.iload_n 1, 1) := by decide +kernel
theorem d_NS_bindNode_14 : decode b_NS_bindNode 14 = .ok (.invokevirtual 101, 3) := by decide +kernel
theorem d_NS_bindNode_17 : decode b_NS_bindNode 17 = .ok (.lstore_n 3, 1) := by decide +kernel
theorem d_NS_bindNode_18 : decode b_NS_bindNode 18 = .ok (.iload_n 2, 1) := by decide +kernel
theorem d_NS_bindNode_19 : decode b_NS_bindNode 19 = .ok (.tableswitch 73 0 6 #[41, 48, 48, 48, 73, 73, 62], 41) := by decide +kernel
theorem d_NS_bindNode_60 : decode b_NS_bindNode 60 = .ok (.aload_n 0, 1) := by decide +kernel
theorem d_NS_bindNode_61 : decode b_NS_bindNode 61 = .ok (.iload_n 1, 1) := by decide +kernel
theorem d_NS_bindNode_62 : decode b_NS_bindNode 62 = .ok (.lload_n 3, 1) := by decide +kernel
theorem d_NS_bindNode_63 : decode b_NS_bindNode 63 = .ok (.invokevirtual 145, 3) := by decide +kernel
theorem d_NS_bindNode_66 : decode b_NS_bindNode 66 = .ok (.ireturn, 1) := by decide +kernel
theorem d_NS_bindNode_67 : decode b_NS_bindNode 67 = .ok (.aload_n 0, 1) := by decide +kernel
theorem d_NS_bindNode_68 : decode b_NS_bindNode 68 = .ok (.getfield 46, 3) := by decide +kernel
theorem d_NS_bindNode_71 : decode b_NS_bindNode 71 = .ok (.iload_n 2, 1) := by decide +kernel
theorem d_NS_bindNode_72 : decode b_NS_bindNode 72 = .ok (.lload_n 3, 1) := by decide +kernel
theorem d_NS_bindNode_73 : decode b_NS_bindNode 73 = .ok (.invokestatic 148, 3) := by decide +kernel
theorem d_NS_bindNode_76 : decode b_NS_bindNode 76 = .ok (.invokevirtual 67, 3) := by decide +kernel
theorem d_NS_bindNode_79 : decode b_NS_bindNode 79 = .ok (.iconst 1, 1) := by decide +kernel
theorem d_NS_bindNode_80 : decode b_NS_bindNode 80 = .ok (.ireturn, 1) := by decide +kernel
theorem d_NS_bindNode_81 : decode b_NS_bindNode 81 = .ok (.aload_n 0, 1) := by decide +kernel
theorem d_NS_bindNode_82 : decode b_NS_bindNode 82 = .ok (.getfield 46, 3) := by decide +kernel
theorem d_NS_bindNode_85 : decode b_NS_bindNode 85 = .ok (.iconst 2, 1) := by decide +kernel
theorem d_NS_bindNode_86 : decode b_NS_bindNode 86 = .ok (.lconst 0, 1) := by decide +kernel
theorem d_NS_bindNode_87 : decode b_NS_bindNode 87 = .ok (.invokevirtual 67, 3) := by decide +kernel
theorem d_NS_bindNode_90 : decode b_NS_bindNode 90 = .ok (.iconst 1, 1) := by decide +kernel
theorem d_NS_bindNode_91 : decode b_NS_bindNode 91 = .ok (.ireturn, 1) := by decide +kernel
theorem d_NS_bindNode_92 : decode b_NS_bindNode 92 = .ok (.aload_n 0, 1) := by decide +kernel
theorem d_NS_bindNode_93 : decode b_NS_bindNode 93 = .ok (.getfield 46, 3) := by decide +kernel
theorem d_NS_bindNode_96 : decode b_NS_bindNode 96 = .ok (.iload_n 2, 1) := by decide +kernel
theorem d_NS_bindNode_97 : decode b_NS_bindNode 97 = .ok (.lload_n 3, 1) := by decide +kernel
theorem d_NS_bindNode_98 : decode b_NS_bindNode 98 = .ok (.invokevirtual 67, 3) := by decide +kernel
theorem d_NS_bindNode_101 : decode b_NS_bindNode 101 = .ok (.iconst 1, 1) := by decide +kernel
theorem d_NS_bindNode_102 : decode b_NS_bindNode 102 = .ok (.ireturn, 1) := by decide +kernel
theorem d_NS_bindName_0 : decode b_NS_bindName 0 = .ok (.aload_n 0, 1) := by decide +kernel
theorem d_NS_bindName_1 : decode b_NS_bindName 1 = .ok (.getfield 32, 3) := by decide +kernel
theorem d_NS_bindName_4 : decode b_NS_bindName 4 = .ok (.lload_n 2, 1) := by decide +kernel
theorem d_NS_bindName_5 : decode b_NS_bindName 5 = .ok (.aload_n 0, 1) := by decide +kernel
theorem d_NS_bindName_6 : decode b_NS_bindName 6 = .ok (.getfield 26, 3) := by decide +kernel
theorem d_NS_bindName_9 : decode b_NS_bindName 9 = .ok (.iload_n 1, 1) := by decide +kernel
theorem d_NS_bindName_10 : decode b_NS_bindName 10 = .ok (.invokevirtual 152, 3) := by decide +kernel
theorem d_NS_bindName_13 : decode b_NS_bindName 13 = .ok (.istore 4, 2) := by decide +kernel
theorem d_NS_bindName_15 : decode b_NS_bindName 15 = .ok (.iload 4, 2) := by decide +kernel
theorem d_NS_bindName_17 : decode b_NS_bindName 17 = .ok (.iconst (-1), 1) := by decide +kernel
theorem d_NS_bindName_18 : decode b_NS_bindName 18 = .ok (.if_icmp .eq 16, 3) := by decide +kernel
theorem d_NS_bindName_21 : decode b_NS_bindName 21 = .ok (.aload_n 0, 1) := by decide +kernel
theorem d_NS_bindName_22 : decode b_NS_bindName 22 = .ok (.getfield 46, 3) := by decide +kernel
theorem d_NS_bindName_25 : decode b_NS_bindName 25 = .ok (.iconst 0, 1) := by decide +kernel
theorem d_NS_bindName_26 : decode b_NS_bindName 26 = .ok (.iload 4, 2) := by decide +kernel
theorem d_NS_bindName_28 : decode b_NS_bindName 28 = .ok (.i2l, 1) := by decide +kernel
theorem d_NS_bindName_29 : decode b_NS_bindName 29 = .ok (.invokevirtual 67, 3) := by decide +kernel
theorem d_NS_bindName_32 : decode b_NS_bindName 32 = .ok (.iconst 1, 1) := by decide +kernel
theorem d_NS_bindName_33 : decode b_NS_bindName 33 = .ok (.ireturn, 1) := by decide +kernel
theorem d_NS_bindName_34 : decode b_NS_bindName 34 = .ok (.aload_n 0, 1) := by decide +kernel
theorem d_NS_bindName_35 : decode b_NS_bindName 35 = .ok (.getfield 10, 3) := by decide +kernel
theorem d_NS_bindName_38 : decode b_NS_bindName 38 = .ok (.lload_n 2, 1) := by decide +kernel
theorem d_NS_bindName_39 : decode b_NS_bindName 39 = .ok (.invokevirtual 156, 3) := by decide +kernel
theorem d_NS_bindName_42 : decode b_NS_bindName 42 = .ok (.istore 5, 2) := by decide +kernel
theorem d_NS_bindName_44 : decode b_NS_bindName 44 = .ok (.iload 5, 2) := by decide +kernel
theorem d_NS_bindName_46 : decode b_NS_bindName 46 = .ok (.iconst (-1), 1) := by decide +kernel
theorem d_NS_bindName_47 : decode b_NS_bindName 47 = .ok (.if_icmp .ne 5, 3) := by decide +kernel
theorem d_NS_bindName_50 : decode b_NS_bindName 50 = .ok (.iconst 0, 1) := by decide +kernel
theorem d_NS_bindName_51 : decode b_NS_bindName 51 = .ok (.ireturn, 1) := by decide +kernel
theorem d_NS_bindName_52 : decode b_NS_bindName 52 = .ok (.aload_n 0, 1) := by decide +kernel
theorem d_NS_bindName_53 : decode b_NS_bindName 53 = .ok (.getfield 46, 3) := by decide +kernel
theorem d_NS_bindName_56 : decode b_NS_bindName 56 = .ok (.bipush 7, 2) := by decide +kernel
theorem d_NS_bindName_58 : decode b_NS_bindName 58 = .ok (.iload 5, 2) := by decide +kernel
theorem d_NS_bindName_60 : decode b_NS_bindName 60 = .ok (.i2l, 1) := by decide +kernel
theorem d_NS_bindName_61 : decode b_NS_bindName 61 = .ok (.invokevirtual 67, 3) := by decide +kernel
theorem d_NS_bindName_64 : decode b_NS_bindName 64 = .ok (.iconst 1, 1) := by decide +kernel
theorem d_NS_bindName_65 : decode b_NS_bindName 65 = .ok (.ireturn, 1) := by decide +kernel
theorem d_NS_contractible_0 : decode b_NS_contractible 0 = .ok (.aload_n 0, 1) := by decide +kernel
theorem d_NS_contractible_1 : decode b_NS_contractible 1 = .ok (.getfield 43, 3) := by decide +kernel
theorem d_NS_contractible_4 : decode b_NS_contractible 4 = .ok (.iload_n 1, 1) := by decide +kernel
theorem d_NS_contractible_5 : decode b_NS_contractible 5 = .ok (.invokevirtual 92, 3) := by decide +kernel
theorem d_NS_contractible_8 : decode b_NS_contractible 8 = .ok (.ifCond .ne 5, 3) := by decide +kernel
theorem d_NS_contractible_11 : decode b_NS_contractible 11 = .ok (.iconst (-1), 1) := by decide +kernel
theorem d_NS_contractible_12 : decode b_NS_contractible 12 = .ok (.ireturn, 1) := by decide +kernel
theorem d_NS_contractible_13 : decode b_NS_contractible 13 = .ok (.aload_n 0, 1) := by decide +kernel
theorem d_NS_contractible_14 : decode b_NS_contractible 14 = .ok (.getfield 43, 3) := by decide +kernel
theorem d_NS_contractible_17 : decode b_NS_contractible 17 = .ok (.iload_n 1, 1) := by decide +kernel
theorem d_NS_contractible_18 : decode b_NS_contractible 18 = .ok (.invokevirtual 97, 3) := by decide +kernel
theorem d_NS_contractible_21 : decode b_NS_contractible 21 = .ok (.iconst 3, 1) := by decide +kernel
theorem d_NS_contractible_22 : decode b_NS_contractible 22 = .ok (.if_icmp .ne 5, 3) := by decide +kernel
theorem d_NS_contractible_25 : decode b_NS_contractible 25 = .ok (.iload_n 1, 1) := by decide +kernel
theorem d_NS_contractible_26 : decode b_NS_contractible 26 = .ok (.ireturn, 1) := by decide +kernel
theorem d_NS_contractible_27 : decode b_NS_contractible 27 = .ok (.aload_n 0, 1) := by decide +kernel
theorem d_NS_contractible_28 : decode b_NS_contractible 28 = .ok (.getfield 43, 3) := by decide +kernel
theorem d_NS_contractible_31 : decode b_NS_contractible 31 = .ok (.iload_n 1, 1) := by decide +kernel
theorem d_NS_contractible_32 : decode b_NS_contractible 32 = .ok (.invokevirtual 97, 3) := by decide +kernel
theorem d_NS_contractible_35 : decode b_NS_contractible 35 = .ok (.iconst 4, 1) := by decide +kernel
theorem d_NS_contractible_36 : decode b_NS_contractible 36 = .ok (.if_icmp .ne 23, 3) := by decide +kernel
theorem d_NS_contractible_39 : decode b_NS_contractible 39 = .ok (.aload_n 0, 1) := by decide +kernel
theorem d_NS_contractible_40 : decode b_NS_contractible 40 = .ok (.getfield 43, 3) := by decide +kernel
theorem d_NS_contractible_43 : decode b_NS_contractible 43 = .ok (.iload_n 1, 1) := by decide +kernel
theorem d_NS_contractible_44 : decode b_NS_contractible 44 = .ok (.iconst 1, 1) := by decide +kernel
theorem d_NS_contractible_45 : decode b_NS_contractible 45 = .ok (.iadd, 1) := by decide +kernel
theorem d_NS_contractible_46 : decode b_NS_contractible 46 = .ok (.invokevirtual 97, 3) := by decide +kernel
theorem d_NS_contractible_49 : decode b_NS_contractible 49 = .ok (.iconst 1, 1) := by decide +kernel
theorem d_NS_contractible_50 : decode b_NS_contractible 50 = .ok (.if_icmp .ne 9, 3) := by decide +kernel
theorem d_NS_contractible_53 : decode b_NS_contractible 53 = .ok (.iload_n 1, 1) := by decide +kernel
theorem d_NS_contractible_54 : decode b_NS_contractible 54 = .ok (.iconst 1, 1) := by decide +kernel
theorem d_NS_contractible_55 : decode b_NS_contractible 55 = .ok (.iadd, 1) := by decide +kernel
theorem d_NS_contractible_56 : decode b_NS_contractible 56 = .ok (.goto 4, 3) := by decide +kernel
theorem d_NS_contractible_59 : decode b_NS_contractible 59 = .ok (.iconst (-1), 1) := by decide +kernel
theorem d_NS_contractible_60 : decode b_NS_contractible 60 = .ok (.ireturn, 1) := by decide +kernel
theorem d_NS_countUses_0 : decode b_NS_countUses 0 = .ok (.aload_n 0, 1) := by decide +kernel
theorem d_NS_countUses_1 : decode b_NS_countUses 1 = .ok (.getfield 32, 3) := by decide +kernel
theorem d_NS_countUses_4 : decode b_NS_countUses 4 = .ok (.iload_n 1, 1) := by decide +kernel
theorem d_NS_countUses_5 : decode b_NS_countUses 5 = .ok (.invokevirtual 159, 3) := by decide +kernel
theorem d_NS_countUses_8 : decode b_NS_countUses 8 = .ok (.iconst 1, 1) := by decide +kernel
theorem d_NS_countUses_9 : decode b_NS_countUses 9 = .ok (.iadd, 1) := by decide +kernel
theorem d_NS_countUses_10 : decode b_NS_countUses 10 = .ok (.istore_n 2, 1) := by decide +kernel
theorem d_NS_countUses_11 : decode b_NS_countUses 11 = .ok (.aload_n 0, 1) := by decide +kernel
theorem d_NS_countUses_12 : decode b_NS_countUses 12 = .ok (.getfield 43, 3) := by decide +kernel
theorem d_NS_countUses_15 : decode b_NS_countUses 15 = .ok (.iload_n 1, 1) := by decide +kernel
theorem d_NS_countUses_16 : decode b_NS_countUses 16 = .ok (.invokevirtual 120, 3) := by decide +kernel
theorem d_NS_countUses_19 : decode b_NS_countUses 19 = .ok (.istore_n 3, 1) := by decide +kernel
theorem d_NS_countUses_20 : decode b_NS_countUses 20 = .ok (.iconst 0, 1) := by decide +kernel
theorem d_NS_countUses_21 : decode b_NS_countUses 21 = .ok (.istore 4, 2) := by decide +kernel
theorem d_NS_countUses_23 : decode b_NS_countUses 23 = .ok (.aload_n 0, 1) := by decide +kernel
theorem d_NS_countUses_24 : decode b_NS_countUses 24 = .ok (.getfield 43, 3) := by decide +kernel
theorem d_NS_countUses_27 : decode b_NS_countUses 27 = .ok (.iload_n 1, 1) := by decide +kernel
theorem d_NS_countUses_28 : decode b_NS_countUses 28 = .ok (.invokevirtual 117, 3) := by decide +kernel
theorem d_NS_countUses_31 : decode b_NS_countUses 31 = .ok (.istore 5, 2) := by decide +kernel
theorem d_NS_countUses_33 : decode b_NS_countUses 33 = .ok (.iload 5, 2) := by decide +kernel
theorem d_NS_countUses_35 : decode b_NS_countUses 35 = .ok (.iload_n 3, 1) := by decide +kernel
theorem d_NS_countUses_36 : decode b_NS_countUses 36 = .ok (.if_icmp .ge 49, 3) := by decide +kernel
theorem d_NS_countUses_39 : decode b_NS_countUses 39 = .ok (.aload_n 0, 1) := by decide +kernel
theorem d_NS_countUses_40 : decode b_NS_countUses 40 = .ok (.getfield 43, 3) := by decide +kernel
theorem d_NS_countUses_43 : decode b_NS_countUses 43 = .ok (.iload 5, 2) := by decide +kernel
theorem d_NS_countUses_45 : decode b_NS_countUses 45 = .ok (.invokevirtual 97, 3) := by decide +kernel
theorem d_NS_countUses_48 : decode b_NS_countUses 48 = .ok (.ifCond .ne 31, 3) := by decide +kernel
theorem d_NS_countUses_51 : decode b_NS_countUses 51 = .ok (.aload_n 0, 1) := by decide +kernel
theorem d_NS_countUses_52 : decode b_NS_countUses 52 = .ok (.getfield 43, 3) := by decide +kernel
theorem d_NS_countUses_55 : decode b_NS_countUses 55 = .ok (.iload 5, 2) := by decide +kernel
theorem d_NS_countUses_57 : decode b_NS_countUses 57 = .ok (.invokevirtual 101, 3) := by decide +kernel
theorem d_NS_countUses_60 : decode b_NS_countUses 60 = .ok (.aload_n 0, 1) := by decide +kernel
theorem d_NS_countUses_61 : decode b_NS_countUses 61 = .ok (.getfield 32, 3) := by decide +kernel
theorem d_NS_countUses_64 : decode b_NS_countUses 64 = .ok (.iload 5, 2) := by decide +kernel
theorem d_NS_countUses_66 : decode b_NS_countUses 66 = .ok (.invokevirtual 159, 3) := by decide +kernel
theorem d_NS_countUses_69 : decode b_NS_countUses 69 = .ok (.iload_n 2, 1) := by decide +kernel
theorem d_NS_countUses_70 : decode b_NS_countUses 70 = .ok (.isub, 1) := by decide +kernel
