/-! decode rows, laid by a program -/
theorem d_RS_init_0 : decode c_RS_init 0 = .ok (.aload_n 0, 1) := by decide +kernel
theorem d_RS_init_1 : decode c_RS_init 1 = .ok (.invokespecial 1, 3) := by decide +kernel
theorem d_RS_init_4 : decode c_RS_init 4 = .ok (.aload_n 0, 1) := by decide +kernel
theorem d_RS_init_5 : decode c_RS_init 5 = .ok (.new 7, 3) := by decide +kernel
theorem d_RS_init_8 : decode c_RS_init 8 = .ok (.dup, 1) := by decide +kernel
theorem d_RS_init_9 : decode c_RS_init 9 = .ok (.invokespecial 9, 3) := by decide +kernel
theorem d_RS_init_12 : decode c_RS_init 12 = .ok (.putfield 10, 3) := by decide +kernel
theorem d_RS_init_15 : decode c_RS_init 15 = .ok (.aload_n 0, 1) := by decide +kernel
theorem d_RS_init_16 : decode c_RS_init 16 = .ok (.new 16, 3) := by decide +kernel
theorem d_RS_init_19 : decode c_RS_init 19 = .ok (.dup, 1) := by decide +kernel
theorem d_RS_init_20 : decode c_RS_init 20 = .ok (.invokespecial 18, 3) := by decide +kernel
theorem d_RS_init_23 : decode c_RS_init 23 = .ok (.putfield 19, 3) := by decide +kernel
theorem d_RS_init_26 : decode c_RS_init 26 = .ok (.aload_n 0, 1) := by decide +kernel
theorem d_RS_init_27 : decode c_RS_init 27 = .ok (.new 23, 3) := by decide +kernel
theorem d_RS_init_30 : decode c_RS_init 30 = .ok (.dup, 1) := by decide +kernel
theorem d_RS_init_31 : decode c_RS_init 31 = .ok (.aload_n 0, 1) := by decide +kernel
theorem d_RS_init_32 : decode c_RS_init 32 = .ok (.getfield 10, 3) := by decide +kernel
theorem d_RS_init_35 : decode c_RS_init 35 = .ok (.aload_n 0, 1) := by decide +kernel
theorem d_RS_init_36 : decode c_RS_init 36 = .ok (.getfield 19, 3) := by decide +kernel
theorem d_RS_init_39 : decode c_RS_init 39 = .ok (.invokespecial 25, 3) := by decide +kernel
theorem d_RS_init_42 : decode c_RS_init 42 = .ok (.putfield 28, 3) := by decide +kernel
theorem d_RS_init_45 : decode c_RS_init 45 = .ok (.aload_n 0, 1) := by decide +kernel
theorem d_RS_init_46 : decode c_RS_init 46 = .ok (.new 32, 3) := by decide +kernel
theorem d_RS_init_49 : decode c_RS_init 49 = .ok (.dup, 1) := by decide +kernel
theorem d_RS_init_50 : decode c_RS_init 50 = .ok (.invokespecial 34, 3) := by decide +kernel
theorem d_RS_init_53 : decode c_RS_init 53 = .ok (.putfield 35, 3) := by decide +kernel
theorem d_RS_init_56 : decode c_RS_init 56 = .ok (.aload_n 0, 1) := by decide +kernel
theorem d_RS_init_57 : decode c_RS_init 57 = .ok (.new 32, 3) := by decide +kernel
theorem d_RS_init_60 : decode c_RS_init 60 = .ok (.dup, 1) := by decide +kernel
theorem d_RS_init_61 : decode c_RS_init 61 = .ok (.invokespecial 34, 3) := by decide +kernel
theorem d_RS_init_64 : decode c_RS_init 64 = .ok (.putfield 39, 3) := by decide +kernel
theorem d_RS_init_67 : decode c_RS_init 67 = .ok (.aload_n 0, 1) := by decide +kernel
theorem d_RS_init_68 : decode c_RS_init 68 = .ok (.iconst 0, 1) := by decide +kernel
theorem d_RS_init_69 : decode c_RS_init 69 = .ok (.putfield 42, 3) := by decide +kernel
theorem d_RS_init_72 : decode c_RS_init 72 = .ok (.aload_n 0, 1) := by decide +kernel
theorem d_RS_init_73 : decode c_RS_init 73 = .ok (.iconst 0, 1) := by decide +kernel
theorem d_RS_init_74 : decode c_RS_init 74 = .ok (.putfield 46, 3) := by decide +kernel
theorem d_RS_init_77 : decode c_RS_init 77 = .ok (.return_, 1) := by decide +kernel
theorem d_RS_spent_0 : decode c_RS_spent 0 = .ok (.aload_n 0, 1) := by decide +kernel
theorem d_RS_spent_1 : decode c_RS_spent 1 = .ok (.getfield 46, 3) := by decide +kernel
theorem d_RS_spent_4 : decode c_RS_spent 4 = .ok (.ireturn, 1) := by decide +kernel
theorem d_RS_steps_0 : decode c_RS_steps 0 = .ok (.aload_n 0, 1) := by decide +kernel
theorem d_RS_steps_1 : decode c_RS_steps 1 = .ok (.getfield 42, 3) := by decide +kernel
theorem d_RS_steps_4 : decode c_RS_steps 4 = .ok (.ireturn, 1) := by decide +kernel
theorem d_RS_domain_0 : decode c_RS_domain 0 = .ok (.iconst 0, 1) := by decide +kernel
theorem d_RS_domain_1 : decode c_RS_domain 1 = .ok (.istore_n 1, 1) := by decide +kernel
theorem d_RS_domain_2 : decode c_RS_domain 2 = .ok (.iconst 0, 1) := by decide +kernel
theorem d_RS_domain_3 : decode c_RS_domain 3 = .ok (.istore_n 2, 1) := by decide +kernel
theorem d_RS_domain_4 : decode c_RS_domain 4 = .ok (.iload_n 2, 1) := by decide +kernel
theorem d_RS_domain_5 : decode c_RS_domain 5 = .ok (.aload_n 0, 1) := by decide +kernel
theorem d_RS_domain_6 : decode c_RS_domain 6 = .ok (.getfield 35, 3) := by decide +kernel
theorem d_RS_domain_9 : decode c_RS_domain 9 = .ok (.getfield 127, 3) := by decide +kernel
theorem d_RS_domain_12 : decode c_RS_domain 12 = .ok (.if_icmp .ge 38, 3) := by decide +kernel
theorem d_RS_domain_15 : decode c_RS_domain 15 = .ok (.aload_n 0, 1) := by decide +kernel
theorem d_RS_domain_16 : decode c_RS_domain 16 = .ok (.getfield 19, 3) := by decide +kernel
theorem d_RS_domain_19 : decode c_RS_domain 19 = .ok (.getfield 138, 3) := by decide +kernel
theorem d_RS_domain_22 : decode c_RS_domain 22 = .ok (.aload_n 0, 1) := by decide +kernel
theorem d_RS_domain_23 : decode c_RS_domain 23 = .ok (.getfield 35, 3) := by decide +kernel
theorem d_RS_domain_26 : decode c_RS_domain 26 = .ok (.iload_n 2, 1) := by decide +kernel
theorem d_RS_domain_27 : decode c_RS_domain 27 = .ok (.iconst 0, 1) := by decide +kernel
theorem d_RS_domain_28 : decode c_RS_domain 28 = .ok (.invokevirtual 135, 3) := by decide +kernel
theorem d_RS_domain_31 : decode c_RS_domain 31 = .ok (.iaload, 1) := by decide +kernel
theorem d_RS_domain_32 : decode c_RS_domain 32 = .ok (.istore_n 3, 1) := by decide +kernel
theorem d_RS_domain_33 : decode c_RS_domain 33 = .ok (.iload_n 3, 1) := by decide +kernel
theorem d_RS_domain_34 : decode c_RS_domain 34 = .ok (.iconst (-1), 1) := by decide +kernel
theorem d_RS_domain_35 : decode c_RS_domain 35 = .ok (.if_icmp .eq 9, 3) := by decide +kernel
theorem d_RS_domain_38 : decode c_RS_domain 38 = .ok (.iload_n 1, 1) := by decide +kernel
theorem d_RS_domain_39 : decode c_RS_domain 39 = .ok (.iconst 1, 1) := by decide +kernel
theorem d_RS_domain_40 : decode c_RS_domain 40 = .ok (.iload_n 3, 1) := by decide +kernel
theorem d_RS_domain_41 : decode c_RS_domain 41 = .ok (.ishl, 1) := by decide +kernel
theorem d_RS_domain_42 : decode c_RS_domain 42 = .ok (.ior, 1) := by decide +kernel
theorem d_RS_domain_43 : decode c_RS_domain 43 = .ok (.istore_n 1, 1) := by decide +kernel
theorem d_RS_domain_44 : decode c_RS_domain 44 = .ok (.iinc 2 1, 3) := by decide +kernel
theorem d_RS_domain_47 : decode c_RS_domain 47 = .ok (.goto (-43), 3) := by decide +kernel
theorem d_RS_domain_50 : decode c_RS_domain 50 = .ok (.iload_n 1, 1) := by decide +kernel
theorem d_RS_domain_51 : decode c_RS_domain 51 = .ok (.ireturn, 1) := by decide +kernel
theorem d_RS_count_0 : decode c_RS_count 0 = .ok (.iload_n 1, 1) := by decide +kernel
theorem d_RS_count_1 : decode c_RS_count 1 = .ok (.tableswitch 51 0 2 #[27, 35, 43], 27) := by decide +kernel
theorem d_RS_count_28 : decode c_RS_count 28 = .ok (.aload_n 0, 1) := by decide +kernel
theorem d_RS_count_29 : decode c_RS_count 29 = .ok (.getfield 10, 3) := by decide +kernel
theorem d_RS_count_32 : decode c_RS_count 32 = .ok (.getfield 110, 3) := by decide +kernel
theorem d_RS_count_35 : decode c_RS_count 35 = .ok (.ireturn, 1) := by decide +kernel
theorem d_RS_count_36 : decode c_RS_count 36 = .ok (.aload_n 0, 1) := by decide +kernel
theorem d_RS_count_37 : decode c_RS_count 37 = .ok (.getfield 19, 3) := by decide +kernel
theorem d_RS_count_40 : decode c_RS_count 40 = .ok (.getfield 164, 3) := by decide +kernel
theorem d_RS_count_43 : decode c_RS_count 43 = .ok (.ireturn, 1) := by decide +kernel
theorem d_RS_count_44 : decode c_RS_count 44 = .ok (.aload_n 0, 1) := by decide +kernel
theorem d_RS_count_45 : decode c_RS_count 45 = .ok (.getfield 35, 3) := by decide +kernel
theorem d_RS_count_48 : decode c_RS_count 48 = .ok (.getfield 127, 3) := by decide +kernel
theorem d_RS_count_51 : decode c_RS_count 51 = .ok (.ireturn, 1) := by decide +kernel
theorem d_RS_count_52 : decode c_RS_count 52 = .ok (.iconst (-1), 1) := by decide +kernel
theorem d_RS_count_53 : decode c_RS_count 53 = .ok (.ireturn, 1) := by decide +kernel
theorem d_RS_leaf_0 : decode c_RS_leaf 0 = .ok (.iload_n 1, 1) := by decide +kernel
theorem d_RS_leaf_1 : decode c_RS_leaf 1 = .ok (.ifCond .lt 9, 3) := by decide +kernel
theorem d_RS_leaf_4 : decode c_RS_leaf 4 = .ok (.iload_n 1, 1) := by decide +kernel
theorem d_RS_leaf_5 : decode c_RS_leaf 5 = .ok (.bipush 20, 2) := by decide +kernel
theorem d_RS_leaf_7 : decode c_RS_leaf 7 = .ok (.if_icmp .lt 13, 3) := by decide +kernel
theorem d_RS_leaf_10 : decode c_RS_leaf 10 = .ok (.new 50, 3) := by decide +kernel
theorem d_RS_leaf_13 : decode c_RS_leaf 13 = .ok (.dup, 1) := by decide +kernel
theorem d_RS_leaf_14 : decode c_RS_leaf 14 = .ok (.ldc 52, 2) := by decide +kernel
theorem d_RS_leaf_16 : decode c_RS_leaf 16 = .ok (.invokespecial 54, 3) := by decide +kernel
theorem d_RS_leaf_19 : decode c_RS_leaf 19 = .ok (.athrow, 1) := by decide +kernel
theorem d_RS_leaf_20 : decode c_RS_leaf 20 = .ok (.aload_n 0, 1) := by decide +kernel
theorem d_RS_leaf_21 : decode c_RS_leaf 21 = .ok (.getfield 10, 3) := by decide +kernel
theorem d_RS_leaf_24 : decode c_RS_leaf 24 = .ok (.iconst (-1), 1) := by decide +kernel
theorem d_RS_leaf_25 : decode c_RS_leaf 25 = .ok (.iload_n 1, 1) := by decide +kernel
theorem d_RS_leaf_26 : decode c_RS_leaf 26 = .ok (.isub, 1) := by decide +kernel
theorem d_RS_leaf_27 : decode c_RS_leaf 27 = .ok (.iconst (-1), 1) := by decide +kernel
theorem d_RS_leaf_28 : decode c_RS_leaf 28 = .ok (.iconst (-1), 1) := by decide +kernel
theorem d_RS_leaf_29 : decode c_RS_leaf 29 = .ok (.invokevirtual 57, 3) := by decide +kernel
theorem d_RS_leaf_32 : decode c_RS_leaf 32 = .ok (.invokestatic 61, 3) := by decide +kernel
theorem d_RS_leaf_35 : decode c_RS_leaf 35 = .ok (.ireturn, 1) := by decide +kernel
theorem d_RS_needMade_0 : decode c_RS_needMade 0 = .ok (.iload_n 0, 1) := by decide +kernel
theorem d_RS_needMade_1 : decode c_RS_needMade 1 = .ok (.ifCond .ge 13, 3) := by decide +kernel
theorem d_RS_needMade_4 : decode c_RS_needMade 4 = .ok (.new 171, 3) := by decide +kernel
theorem d_RS_needMade_7 : decode c_RS_needMade 7 = .ok (.dup, 1) := by decide +kernel
theorem d_RS_needMade_8 : decode c_RS_needMade 8 = .ok (.ldc 173, 2) := by decide +kernel
theorem d_RS_needMade_10 : decode c_RS_needMade 10 = .ok (.invokespecial 175, 3) := by decide +kernel
theorem d_RS_needMade_13 : decode c_RS_needMade 13 = .ok (.athrow, 1) := by decide +kernel
theorem d_RS_needMade_14 : decode c_RS_needMade 14 = .ok (.iload_n 0, 1) := by decide +kernel
theorem d_RS_needMade_15 : decode c_RS_needMade 15 = .ok (.ireturn, 1) := by decide +kernel
theorem d_RS_hole_0 : decode c_RS_hole 0 = .ok (.iload_n 1, 1) := by decide +kernel
theorem d_RS_hole_1 : decode c_RS_hole 1 = .ok (.ifCond .lt 9, 3) := by decide +kernel
theorem d_RS_hole_4 : decode c_RS_hole 4 = .ok (.iload_n 1, 1) := by decide +kernel
theorem d_RS_hole_5 : decode c_RS_hole 5 = .ok (.bipush 6, 2) := by decide +kernel
theorem d_RS_hole_7 : decode c_RS_hole 7 = .ok (.if_icmp .lt 13, 3) := by decide +kernel
theorem d_RS_hole_10 : decode c_RS_hole 10 = .ok (.new 50, 3) := by decide +kernel
theorem d_RS_hole_13 : decode c_RS_hole 13 = .ok (.dup, 1) := by decide +kernel
theorem d_RS_hole_14 : decode c_RS_hole 14 = .ok (.ldc 65, 2) := by decide +kernel
theorem d_RS_hole_16 : decode c_RS_hole 16 = .ok (.invokespecial 54, 3) := by decide +kernel
theorem d_RS_hole_19 : decode c_RS_hole 19 = .ok (.athrow, 1) := by decide +kernel
theorem d_RS_hole_20 : decode c_RS_hole 20 = .ok (.aload_n 0, 1) := by decide +kernel
theorem d_RS_hole_21 : decode c_RS_hole 21 = .ok (.getfield 10, 3) := by decide +kernel
theorem d_RS_hole_24 : decode c_RS_hole 24 = .ok (.bipush 100, 2) := by decide +kernel
theorem d_RS_hole_26 : decode c_RS_hole 26 = .ok (.iload_n 1, 1) := by decide +kernel
theorem d_RS_hole_27 : decode c_RS_hole 27 = .ok (.iadd, 1) := by decide +kernel
theorem d_RS_hole_28 : decode c_RS_hole 28 = .ok (.iconst (-1), 1) := by decide +kernel
theorem d_RS_hole_29 : decode c_RS_hole 29 = .ok (.iconst (-1), 1) := by decide +kernel
theorem d_RS_hole_30 : decode c_RS_hole 30 = .ok (.invokevirtual 57, 3) := by decide +kernel
theorem d_RS_hole_33 : decode c_RS_hole 33 = .ok (.invokestatic 61, 3) := by decide +kernel
theorem d_RS_hole_36 : decode c_RS_hole 36 = .ok (.ireturn, 1) := by decide +kernel
theorem d_RS_node_0 : decode c_RS_node 0 = .ok (.iload_n 1, 1) := by decide +kernel
theorem d_RS_node_1 : decode c_RS_node 1 = .ok (.bipush 6, 2) := by decide +kernel
theorem d_RS_node_3 : decode c_RS_node 3 = .ok (.if_icmp .ge 7, 3) := by decide +kernel
theorem d_RS_node_6 : decode c_RS_node 6 = .ok (.iconst 1, 1) := by decide +kernel
theorem d_RS_node_7 : decode c_RS_node 7 = .ok (.goto 4, 3) := by decide +kernel
theorem d_RS_node_10 : decode c_RS_node 10 = .ok (.iconst 0, 1) := by decide +kernel
theorem d_RS_node_11 : decode c_RS_node 11 = .ok (.istore 4, 2) := by decide +kernel
theorem d_RS_node_13 : decode c_RS_node 13 = .ok (.aload_n 0, 1) := by decide +kernel
theorem d_RS_node_14 : decode c_RS_node 14 = .ok (.iload_n 2, 1) := by decide +kernel
theorem d_RS_node_15 : decode c_RS_node 15 = .ok (.invokevirtual 67, 3) := by decide +kernel
theorem d_RS_node_18 : decode c_RS_node 18 = .ok (.iload 4, 2) := by decide +kernel
theorem d_RS_node_20 : decode c_RS_node 20 = .ok (.ifCond .eq 8, 3) := by decide +kernel
theorem d_RS_node_23 : decode c_RS_node 23 = .ok (.iload_n 3, 1) := by decide +kernel
theorem d_RS_node_24 : decode c_RS_node 24 = .ok (.iconst (-1), 1) := by decide +kernel
theorem d_RS_node_25 : decode c_RS_node 25 = .ok (.if_icmp .eq 8, 3) := by decide +kernel
theorem d_RS_node_28 : decode c_RS_node 28 = .ok (.aload_n 0, 1) := by decide +kernel
theorem d_RS_node_29 : decode c_RS_node 29 = .ok (.iload_n 3, 1) := by decide +kernel
theorem d_RS_node_30 : decode c_RS_node 30 = .ok (.invokevirtual 67, 3) := by decide +kernel
theorem d_RS_node_33 : decode c_RS_node 33 = .ok (.iload_n 1, 1) := by decide +kernel
theorem d_RS_node_34 : decode c_RS_node 34 = .ok (.ifCond .lt 19, 3) := by decide +kernel
theorem d_RS_node_37 : decode c_RS_node 37 = .ok (.iload_n 1, 1) := by decide +kernel
theorem d_RS_node_38 : decode c_RS_node 38 = .ok (.bipush 12, 2) := by decide +kernel
theorem d_RS_node_40 : decode c_RS_node 40 = .ok (.if_icmp .ge 13, 3) := by decide +kernel
theorem d_RS_node_43 : decode c_RS_node 43 = .ok (.iload 4, 2) := by decide +kernel
theorem d_RS_node_45 : decode c_RS_node 45 = .ok (.ifCond .eq 18, 3) := by decide +kernel
theorem d_RS_node_48 : decode c_RS_node 48 = .ok (.iload_n 3, 1) := by decide +kernel
theorem d_RS_node_49 : decode c_RS_node 49 = .ok (.iconst (-1), 1) := by decide +kernel
theorem d_RS_node_50 : decode c_RS_node 50 = .ok (.if_icmp .eq 13, 3) := by decide +kernel
theorem d_RS_node_53 : decode c_RS_node 53 = .ok (.new 50, 3) := by decide +kernel
theorem d_RS_node_56 : decode c_RS_node 56 = .ok (.dup, 1) := by decide +kernel
theorem d_RS_node_57 : decode c_RS_node 57 = .ok (.ldc 71, 2) := by decide +kernel
theorem d_RS_node_59 : decode c_RS_node 59 = .ok (.invokespecial 54, 3) := by decide +kernel
theorem d_RS_node_62 : decode c_RS_node 62 = .ok (.athrow, 1) := by decide +kernel
theorem d_RS_node_63 : decode c_RS_node 63 = .ok (.aload_n 0, 1) := by decide +kernel
theorem d_RS_node_64 : decode c_RS_node 64 = .ok (.getfield 10, 3) := by decide +kernel
theorem d_RS_node_67 : decode c_RS_node 67 = .ok (.iload_n 1, 1) := by decide +kernel
theorem d_RS_node_68 : decode c_RS_node 68 = .ok (.iload_n 2, 1) := by decide +kernel
theorem d_RS_node_69 : decode c_RS_node 69 = .ok (.iload_n 3, 1) := by decide +kernel
theorem d_RS_node_70 : decode c_RS_node 70 = .ok (.invokevirtual 57, 3) := by decide +kernel
theorem d_RS_node_73 : decode c_RS_node 73 = .ok (.invokestatic 61, 3) := by decide +kernel
theorem d_RS_node_76 : decode c_RS_node 76 = .ok (.ireturn, 1) := by decide +kernel
theorem d_RS_needTree_0 : decode c_RS_needTree 0 = .ok (.iload_n 1, 1) := by decide +kernel
theorem d_RS_needTree_1 : decode c_RS_needTree 1 = .ok (.ifCond .lt 14, 3) := by decide +kernel
theorem d_RS_needTree_4 : decode c_RS_needTree 4 = .ok (.iload_n 1, 1) := by decide +kernel
theorem d_RS_needTree_5 : decode c_RS_needTree 5 = .ok (.aload_n 0, 1) := by decide +kernel
theorem d_RS_needTree_6 : decode c_RS_needTree 6 = .ok (.getfield 10, 3) := by decide +kernel
theorem d_RS_needTree_9 : decode c_RS_needTree 9 = .ok (.getfield 110, 3) := by decide +kernel
theorem d_RS_needTree_12 : decode c_RS_needTree 12 = .ok (.if_icmp .lt 13, 3) := by decide +kernel
theorem d_RS_needTree_15 : decode c_RS_needTree 15 = .ok (.new 128, 3) := by decide +kernel
theorem d_RS_needTree_18 : decode c_RS_needTree 18 = .ok (.dup, 1) := by decide +kernel
theorem d_RS_needTree_19 : decode c_RS_needTree 19 = .ok (.ldc 165, 2) := by decide +kernel
theorem d_RS_needTree_21 : decode c_RS_needTree 21 = .ok (.invokespecial 132, 3) := by decide +kernel
theorem d_RS_needTree_24 : decode c_RS_needTree 24 = .ok (.athrow, 1) := by decide +kernel
theorem d_RS_needTree_25 : decode c_RS_needTree 25 = .ok (.return_, 1) := by decide +kernel
theorem d_RS_rule_0 : decode c_RS_rule 0 = .ok (.aload_n 0, 1) := by decide +kernel
theorem d_RS_rule_1 : decode c_RS_rule 1 = .ok (.iload_n 1, 1) := by decide +kernel
theorem d_RS_rule_2 : decode c_RS_rule 2 = .ok (.invokevirtual 67, 3) := by decide +kernel
theorem d_RS_rule_5 : decode c_RS_rule 5 = .ok (.aload_n 0, 1) := by decide +kernel
theorem d_RS_rule_6 : decode c_RS_rule 6 = .ok (.iload_n 2, 1) := by decide +kernel
theorem d_RS_rule_7 : decode c_RS_rule 7 = .ok (.invokevirtual 67, 3) := by decide +kernel
theorem d_RS_rule_10 : decode c_RS_rule 10 = .ok (.aload_n 0, 1) := by decide +kernel
theorem d_RS_rule_11 : decode c_RS_rule 11 = .ok (.getfield 10, 3) := by decide +kernel
theorem d_RS_rule_14 : decode c_RS_rule 14 = .ok (.iload_n 1, 1) := by decide +kernel
theorem d_RS_rule_15 : decode c_RS_rule 15 = .ok (.invokevirtual 73, 3) := by decide +kernel
theorem d_RS_rule_18 : decode c_RS_rule 18 = .ok (.ifCond .eq 27, 3) := by decide +kernel
theorem d_RS_rule_21 : decode c_RS_rule 21 = .ok (.aload_n 0, 1) := by decide +kernel
theorem d_RS_rule_22 : decode c_RS_rule 22 = .ok (.getfield 10, 3) := by decide +kernel
theorem d_RS_rule_25 : decode c_RS_rule 25 = .ok (.getfield 77, 3) := by decide +kernel
theorem d_RS_rule_28 : decode c_RS_rule 28 = .ok (.iload_n 2, 1) := by decide +kernel
theorem d_RS_rule_29 : decode c_RS_rule 29 = .ok (.iaload, 1) := by decide +kernel
theorem d_RS_rule_30 : decode c_RS_rule 30 = .ok (.aload_n 0, 1) := by decide +kernel
theorem d_RS_rule_31 : decode c_RS_rule 31 = .ok (.getfield 10, 3) := by decide +kernel
theorem d_RS_rule_34 : decode c_RS_rule 34 = .ok (.getfield 77, 3) := by decide +kernel
theorem d_RS_rule_37 : decode c_RS_rule 37 = .ok (.iload_n 1, 1) := by decide +kernel
theorem d_RS_rule_38 : decode c_RS_rule 38 = .ok (.iaload, 1) := by decide +kernel
theorem d_RS_rule_39 : decode c_RS_rule 39 = .ok (.iconst (-1), 1) := by decide +kernel
theorem d_RS_rule_40 : decode c_RS_rule 40 = .ok (.ixor, 1) := by decide +kernel
theorem d_RS_rule_41 : decode c_RS_rule 41 = .ok (.iand, 1) := by decide +kernel
theorem d_RS_rule_42 : decode c_RS_rule 42 = .ok (.ifCond .eq 13, 3) := by decide +kernel
theorem d_RS_rule_45 : decode c_RS_rule 45 = .ok (.new 50, 3) := by decide +kernel
theorem d_RS_rule_48 : decode c_RS_rule 48 = .ok (.dup, 1) := by decide +kernel
theorem d_RS_rule_49 : decode c_RS_rule 49 = .ok (.ldc 81, 2) := by decide +kernel
theorem d_RS_rule_51 : decode c_RS_rule 51 = .ok (.invokespecial 54, 3) := by decide +kernel
theorem d_RS_rule_54 : decode c_RS_rule 54 = .ok (.athrow, 1) := by decide +kernel
theorem d_RS_rule_55 : decode c_RS_rule 55 = .ok (.iload_n 3, 1) := by decide +kernel
theorem d_RS_rule_56 : decode c_RS_rule 56 = .ok (.iconst (-1), 1) := by decide +kernel
theorem d_RS_rule_57 : decode c_RS_rule 57 = .ok (.if_icmp .lt 9, 3) := by decide +kernel
theorem d_RS_rule_60 : decode c_RS_rule 60 = .ok (.iload_n 3, 1) := by decide +kernel
theorem d_RS_rule_61 : decode c_RS_rule 61 = .ok (.bipush 10, 2) := by decide +kernel
theorem d_RS_rule_63 : decode c_RS_rule 63 = .ok (.if_icmp .lt 13, 3) := by decide +kernel
theorem d_RS_rule_66 : decode c_RS_rule 66 = .ok (.new 50, 3) := by decide +kernel
theorem d_RS_rule_69 : decode c_RS_rule 69 = .ok (.dup, 1) := by decide +kernel
theorem d_RS_rule_70 : decode c_RS_rule 70 = .ok (.ldc 83, 2) := by decide +kernel
theorem d_RS_rule_72 : decode c_RS_rule 72 = .ok (.invokespecial 54, 3) := by decide +kernel
theorem d_RS_rule_75 : decode c_RS_rule 75 = .ok (.athrow, 1) := by decide +kernel
theorem d_RS_rule_76 : decode c_RS_rule 76 = .ok (.aload_n 0, 1) := by decide +kernel
theorem d_RS_rule_77 : decode c_RS_rule 77 = .ok (.getfield 19, 3) := by decide +kernel
theorem d_RS_rule_80 : decode c_RS_rule 80 = .ok (.iload_n 1, 1) := by decide +kernel
theorem d_RS_rule_81 : decode c_RS_rule 81 = .ok (.iload_n 2, 1) := by decide +kernel
theorem d_RS_rule_82 : decode c_RS_rule 82 = .ok (.iload_n 3, 1) := by decide +kernel
theorem d_RS_rule_83 : decode c_RS_rule 83 = .ok (.aload_n 0, 1) := by decide +kernel
theorem d_RS_rule_84 : decode c_RS_rule 84 = .ok (.getfield 10, 3) := by decide +kernel
theorem d_RS_rule_87 : decode c_RS_rule 87 = .ok (.iload_n 1, 1) := by decide +kernel
theorem d_RS_rule_88 : decode c_RS_rule 88 = .ok (.iload_n 2, 1) := by decide +kernel
theorem d_RS_rule_89 : decode c_RS_rule 89 = .ok (.invokevirtual 85, 3) := by decide +kernel
theorem d_RS_rule_92 : decode c_RS_rule 92 = .ok (.invokevirtual 89, 3) := by decide +kernel
theorem d_RS_rule_95 : decode c_RS_rule 95 = .ok (.ireturn, 1) := by decide +kernel
theorem d_RS_holds_0 : decode c_RS_holds 0 = .ok (.iload_n 1, 1) := by decide +kernel
theorem d_RS_holds_1 : decode c_RS_holds 1 = .ok (.ifCond .lt 18, 3) := by decide +kernel
theorem d_RS_holds_4 : decode c_RS_holds 4 = .ok (.iload_n 1, 1) := by decide +kernel
theorem d_RS_holds_5 : decode c_RS_holds 5 = .ok (.bipush 10, 2) := by decide +kernel
theorem d_RS_holds_7 : decode c_RS_holds 7 = .ok (.if_icmp .ge 12, 3) := by decide +kernel
theorem d_RS_holds_10 : decode c_RS_holds 10 = .ok (.iload_n 2, 1) := by decide +kernel
theorem d_RS_holds_11 : decode c_RS_holds 11 = .ok (.ifCond .lt 8, 3) := by decide +kernel
theorem d_RS_holds_14 : decode c_RS_holds 14 = .ok (.iload_n 2, 1) := by decide +kernel
theorem d_RS_holds_15 : decode c_RS_holds 15 = .ok (.iconst 3, 1) := by decide +kernel
theorem d_RS_holds_16 : decode c_RS_holds 16 = .ok (.if_icmp .lt 13, 3) := by decide +kernel
theorem d_RS_holds_19 : decode c_RS_holds 19 = .ok (.new 50, 3) := by decide +kernel
theorem d_RS_holds_22 : decode c_RS_holds 22 = .ok (.dup, 1) := by decide +kernel
theorem d_RS_holds_23 : decode c_RS_holds 23 = .ok (.ldc 93, 2) := by decide +kernel
theorem d_RS_holds_25 : decode c_RS_holds 25 = .ok (.invokespecial 54, 3) := by decide +kernel
theorem d_RS_holds_28 : decode c_RS_holds 28 = .ok (.athrow, 1) := by decide +kernel
theorem d_RS_holds_29 : decode c_RS_holds 29 = .ok (.aload_n 0, 1) := by decide +kernel
theorem d_RS_holds_30 : decode c_RS_holds 30 = .ok (.getfield 19, 3) := by decide +kernel
theorem d_RS_holds_33 : decode c_RS_holds 33 = .ok (.getfield 95, 3) := by decide +kernel
theorem d_RS_holds_36 : decode c_RS_holds 36 = .ok (.iload_n 1, 1) := by decide +kernel
theorem d_RS_holds_37 : decode c_RS_holds 37 = .ok (.iaload, 1) := by decide +kernel
theorem d_RS_holds_38 : decode c_RS_holds 38 = .ok (.iload_n 2, 1) := by decide +kernel
theorem d_RS_holds_39 : decode c_RS_holds 39 = .ok (.if_icmp .eq 7, 3) := by decide +kernel
theorem d_RS_holds_42 : decode c_RS_holds 42 = .ok (.iconst 1, 1) := by decide +kernel
theorem d_RS_holds_43 : decode c_RS_holds 43 = .ok (.goto 4, 3) := by decide +kernel
theorem d_RS_holds_46 : decode c_RS_holds 46 = .ok (.iconst 0, 1) := by decide +kernel
theorem d_RS_holds_47 : decode c_RS_holds 47 = .ok (.istore_n 3, 1) := by decide +kernel
theorem d_RS_holds_48 : decode c_RS_holds 48 = .ok (.aload_n 0, 1) := by decide +kernel
theorem d_RS_holds_49 : decode c_RS_holds 49 = .ok (.getfield 19, 3) := by decide +kernel
theorem d_RS_holds_52 : decode c_RS_holds 52 = .ok (.getfield 95, 3) := by decide +kernel
theorem d_RS_holds_55 : decode c_RS_holds 55 = .ok (.iload_n 1, 1) := by decide +kernel
theorem d_RS_holds_56 : decode c_RS_holds 56 = .ok (.iload_n 2, 1) := by decide +kernel
theorem d_RS_holds_57 : decode c_RS_holds 57 = .ok (.iastore, 1) := by decide +kernel
theorem d_RS_holds_58 : decode c_RS_holds 58 = .ok (.iload_n 3, 1) := by decide +kernel
theorem d_RS_holds_59 : decode c_RS_holds 59 = .ok (.ireturn, 1) := by decide +kernel
theorem d_RS_choose_0 : decode c_RS_choose 0 = .ok (.aload_n 0, 1) := by decide +kernel
theorem d_RS_choose_1 : decode c_RS_choose 1 = .ok (.iload_n 1, 1) := by decide +kernel
theorem d_RS_choose_2 : decode c_RS_choose 2 = .ok (.invokevirtual 98, 3) := by decide +kernel
theorem d_RS_choose_5 : decode c_RS_choose 5 = .ok (.aload_n 0, 1) := by decide +kernel
theorem d_RS_choose_6 : decode c_RS_choose 6 = .ok (.getfield 19, 3) := by decide +kernel
theorem d_RS_choose_9 : decode c_RS_choose 9 = .ok (.getfield 101, 3) := by decide +kernel
theorem d_RS_choose_12 : decode c_RS_choose 12 = .ok (.iload_n 1, 1) := by decide +kernel
theorem d_RS_choose_13 : decode c_RS_choose 13 = .ok (.baload, 1) := by decide +kernel
theorem d_RS_choose_14 : decode c_RS_choose 14 = .ok (.iload_n 2, 1) := by decide +kernel
theorem d_RS_choose_15 : decode c_RS_choose 15 = .ok (.if_icmp .eq 7, 3) := by decide +kernel
theorem d_RS_choose_18 : decode c_RS_choose 18 = .ok (.iconst 1, 1) := by decide +kernel
theorem d_RS_choose_19 : decode c_RS_choose 19 = .ok (.goto 4, 3) := by decide +kernel
theorem d_RS_choose_22 : decode c_RS_choose 22 = .ok (.iconst 0, 1) := by decide +kernel
theorem d_RS_choose_23 : decode c_RS_choose 23 = .ok (.istore_n 3, 1) := by decide +kernel
theorem d_RS_choose_24 : decode c_RS_choose 24 = .ok (.aload_n 0, 1) := by decide +kernel
theorem d_RS_choose_25 : decode c_RS_choose 25 = .ok (.getfield 19, 3) := by decide +kernel
theorem d_RS_choose_28 : decode c_RS_choose 28 = .ok (.getfield 101, 3) := by decide +kernel
theorem d_RS_choose_31 : decode c_RS_choose 31 = .ok (.iload_n 1, 1) := by decide +kernel
theorem d_RS_choose_32 : decode c_RS_choose 32 = .ok (.iload_n 2, 1) := by decide +kernel
theorem d_RS_choose_33 : decode c_RS_choose 33 = .ok (.bastore, 1) := by decide +kernel
theorem d_RS_choose_34 : decode c_RS_choose 34 = .ok (.iload_n 3, 1) := by decide +kernel
theorem d_RS_choose_35 : decode c_RS_choose 35 = .ok (.ireturn, 1) := by decide +kernel
theorem d_RS_needRule_0 : decode c_RS_needRule 0 = .ok (.iload_n 1, 1) := by decide +kernel
theorem d_RS_needRule_1 : decode c_RS_needRule 1 = .ok (.ifCond .lt 14, 3) := by decide +kernel
theorem d_RS_needRule_4 : decode c_RS_needRule 4 = .ok (.iload_n 1, 1) := by decide +kernel
theorem d_RS_needRule_5 : decode c_RS_needRule 5 = .ok (.aload_n 0, 1) := by decide +kernel
theorem d_RS_needRule_6 : decode c_RS_needRule 6 = .ok (.getfield 19, 3) := by decide +kernel
theorem d_RS_needRule_9 : decode c_RS_needRule 9 = .ok (.getfield 164, 3) := by decide +kernel
theorem d_RS_needRule_12 : decode c_RS_needRule 12 = .ok (.if_icmp .lt 13, 3) := by decide +kernel
theorem d_RS_needRule_15 : decode c_RS_needRule 15 = .ok (.new 128, 3) := by decide +kernel
theorem d_RS_needRule_18 : decode c_RS_needRule 18 = .ok (.dup, 1) := by decide +kernel
theorem d_RS_needRule_19 : decode c_RS_needRule 19 = .ok (.ldc 167, 2) := by decide +kernel
theorem d_RS_needRule_21 : decode c_RS_needRule 21 = .ok (.invokespecial 132, 3) := by decide +kernel
theorem d_RS_needRule_24 : decode c_RS_needRule 24 = .ok (.athrow, 1) := by decide +kernel
theorem d_RS_needRule_25 : decode c_RS_needRule 25 = .ok (.return_, 1) := by decide +kernel
theorem d_RS_rewrite_0 : decode c_RS_rewrite 0 = .ok (.aload_n 0, 1) := by decide +kernel
theorem d_RS_rewrite_1 : decode c_RS_rewrite 1 = .ok (.iload_n 1, 1) := by decide +kernel
theorem d_RS_rewrite_2 : decode c_RS_rewrite 2 = .ok (.invokevirtual 67, 3) := by decide +kernel
theorem d_RS_rewrite_5 : decode c_RS_rewrite 5 = .ok (.aload_n 0, 1) := by decide +kernel
theorem d_RS_rewrite_6 : decode c_RS_rewrite 6 = .ok (.iload_n 1, 1) := by decide +kernel
theorem d_RS_rewrite_7 : decode c_RS_rewrite 7 = .ok (.invokevirtual 105, 3) := by decide +kernel
theorem d_RS_rewrite_10 : decode c_RS_rewrite 10 = .ok (.iload_n 2, 1) := by decide +kernel
theorem d_RS_rewrite_11 : decode c_RS_rewrite 11 = .ok (.ifCond .lt 10, 3) := by decide +kernel
theorem d_RS_rewrite_14 : decode c_RS_rewrite 14 = .ok (.iload_n 2, 1) := by decide +kernel
theorem d_RS_rewrite_15 : decode c_RS_rewrite 15 = .ok (.sipush 200, 3) := by decide +kernel
theorem d_RS_rewrite_18 : decode c_RS_rewrite 18 = .ok (.if_icmp .le 13, 3) := by decide +kernel
theorem d_RS_rewrite_21 : decode c_RS_rewrite 21 = .ok (.new 50, 3) := by decide +kernel
theorem d_RS_rewrite_24 : decode c_RS_rewrite 24 = .ok (.dup, 1) := by decide +kernel
theorem d_RS_rewrite_25 : decode c_RS_rewrite 25 = .ok (.ldc 108, 2) := by decide +kernel
theorem d_RS_rewrite_27 : decode c_RS_rewrite 27 = .ok (.invokespecial 54, 3) := by decide +kernel
theorem d_RS_rewrite_30 : decode c_RS_rewrite 30 = .ok (.athrow, 1) := by decide +kernel
theorem d_RS_rewrite_31 : decode c_RS_rewrite 31 = .ok (.aload_n 0, 1) := by decide +kernel
theorem d_RS_rewrite_32 : decode c_RS_rewrite 32 = .ok (.getfield 10, 3) := by decide +kernel
theorem d_RS_rewrite_35 : decode c_RS_rewrite 35 = .ok (.getfield 110, 3) := by decide +kernel
theorem d_RS_rewrite_38 : decode c_RS_rewrite 38 = .ok (.istore_n 3, 1) := by decide +kernel
theorem d_RS_rewrite_39 : decode c_RS_rewrite 39 = .ok (.aload_n 0, 1) := by decide +kernel
theorem d_RS_rewrite_40 : decode c_RS_rewrite 40 = .ok (.aload_n 0, 1) := by decide +kernel
theorem d_RS_rewrite_41 : decode c_RS_rewrite 41 = .ok (.getfield 28, 3) := by decide +kernel
theorem d_RS_rewrite_44 : decode c_RS_rewrite 44 = .ok (.iload_n 1, 1) := by decide +kernel
theorem d_RS_rewrite_45 : decode c_RS_rewrite 45 = .ok (.iload_n 2, 1) := by decide +kernel
theorem d_RS_rewrite_46 : decode c_RS_rewrite 46 = .ok (.iconst 0, 1) := by decide +kernel
theorem d_RS_rewrite_47 : decode c_RS_rewrite 47 = .ok (.aload_n 0, 1) := by decide +kernel
theorem d_RS_rewrite_48 : decode c_RS_rewrite 48 = .ok (.getfield 39, 3) := by decide +kernel
theorem d_RS_rewrite_51 : decode c_RS_rewrite 51 = .ok (.invokevirtual 113, 3) := by decide +kernel
theorem d_RS_rewrite_54 : decode c_RS_rewrite 54 = .ok (.iload_n 3, 1) := by decide +kernel
theorem d_RS_rewrite_55 : decode c_RS_rewrite 55 = .ok (.invokevirtual 117, 3) := by decide +kernel
theorem d_RS_rewrite_58 : decode c_RS_rewrite 58 = .ok (.istore 4, 2) := by decide +kernel
theorem d_RS_rewrite_60 : decode c_RS_rewrite 60 = .ok (.aload_n 0, 1) := by decide +kernel
theorem d_RS_rewrite_61 : decode c_RS_rewrite 61 = .ok (.invokevirtual 121, 3) := by decide +kernel
theorem d_RS_rewrite_64 : decode c_RS_rewrite 64 = .ok (.aload_n 0, 1) := by decide +kernel
theorem d_RS_rewrite_65 : decode c_RS_rewrite 65 = .ok (.aload_n 0, 1) := by decide +kernel
theorem d_RS_rewrite_66 : decode c_RS_rewrite 66 = .ok (.getfield 28, 3) := by decide +kernel
theorem d_RS_rewrite_69 : decode c_RS_rewrite 69 = .ok (.getfield 124, 3) := by decide +kernel
theorem d_RS_rewrite_72 : decode c_RS_rewrite 72 = .ok (.putfield 46, 3) := by decide +kernel
theorem d_RS_rewrite_75 : decode c_RS_rewrite 75 = .ok (.iload 4, 2) := by decide +kernel
theorem d_RS_rewrite_77 : decode c_RS_rewrite 77 = .ok (.ireturn, 1) := by decide +kernel
theorem d_RS_needPlain_0 : decode c_RS_needPlain 0 = .ok (.aload_n 0, 1) := by decide +kernel
theorem d_RS_needPlain_1 : decode c_RS_needPlain 1 = .ok (.getfield 10, 3) := by decide +kernel
theorem d_RS_needPlain_4 : decode c_RS_needPlain 4 = .ok (.getfield 77, 3) := by decide +kernel
theorem d_RS_needPlain_7 : decode c_RS_needPlain 7 = .ok (.iload_n 1, 1) := by decide +kernel
theorem d_RS_needPlain_8 : decode c_RS_needPlain 8 = .ok (.iaload, 1) := by decide +kernel
theorem d_RS_needPlain_9 : decode c_RS_needPlain 9 = .ok (.ifCond .eq 13, 3) := by decide +kernel
theorem d_RS_needPlain_12 : decode c_RS_needPlain 12 = .ok (.new 50, 3) := by decide +kernel
theorem d_RS_needPlain_15 : decode c_RS_needPlain 15 = .ok (.dup, 1) := by decide +kernel
theorem d_RS_needPlain_16 : decode c_RS_needPlain 16 = .ok (.ldc 169, 2) := by decide +kernel
theorem d_RS_needPlain_18 : decode c_RS_needPlain 18 = .ok (.invokespecial 54, 3) := by decide +kernel
theorem d_RS_needPlain_21 : decode c_RS_needPlain 21 = .ok (.athrow, 1) := by decide +kernel
theorem d_RS_needPlain_22 : decode c_RS_needPlain 22 = .ok (.return_, 1) := by decide +kernel
theorem d_RS_needRun_0 : decode c_RS_needRun 0 = .ok (.iload_n 1, 1) := by decide +kernel
theorem d_RS_needRun_1 : decode c_RS_needRun 1 = .ok (.ifCond .ge 11, 3) := by decide +kernel
theorem d_RS_needRun_4 : decode c_RS_needRun 4 = .ok (.aload_n 0, 1) := by decide +kernel
theorem d_RS_needRun_5 : decode c_RS_needRun 5 = .ok (.getfield 10, 3) := by decide +kernel
theorem d_RS_needRun_8 : decode c_RS_needRun 8 = .ok (.iload_n 2, 1) := by decide +kernel
theorem d_RS_needRun_9 : decode c_RS_needRun 9 = .ok (.invokevirtual 176, 3) := by decide +kernel
theorem d_RS_needRun_12 : decode c_RS_needRun 12 = .ok (.iload_n 1, 1) := by decide +kernel
theorem d_RS_needRun_13 : decode c_RS_needRun 13 = .ok (.invokestatic 61, 3) := by decide +kernel
theorem d_RS_needRun_16 : decode c_RS_needRun 16 = .ok (.ireturn, 1) := by decide +kernel
theorem d_RS_keepRun_0 : decode c_RS_keepRun 0 = .ok (.aload_n 0, 1) := by decide +kernel
theorem d_RS_keepRun_1 : decode c_RS_keepRun 1 = .ok (.getfield 35, 3) := by decide +kernel
theorem d_RS_keepRun_4 : decode c_RS_keepRun 4 = .ok (.astore_n 1, 1) := by decide +kernel
theorem d_RS_keepRun_5 : decode c_RS_keepRun 5 = .ok (.aload_n 0, 1) := by decide +kernel
theorem d_RS_keepRun_6 : decode c_RS_keepRun 6 = .ok (.aload_n 0, 1) := by decide +kernel
theorem d_RS_keepRun_7 : decode c_RS_keepRun 7 = .ok (.getfield 39, 3) := by decide +kernel
theorem d_RS_keepRun_10 : decode c_RS_keepRun 10 = .ok (.putfield 35, 3) := by decide +kernel
theorem d_RS_keepRun_13 : decode c_RS_keepRun 13 = .ok (.aload_n 0, 1) := by decide +kernel
theorem d_RS_keepRun_14 : decode c_RS_keepRun 14 = .ok (.aload_n 1, 1) := by decide +kernel
theorem d_RS_keepRun_15 : decode c_RS_keepRun 15 = .ok (.putfield 39, 3) := by decide +kernel
theorem d_RS_keepRun_18 : decode c_RS_keepRun 18 = .ok (.aload_n 0, 1) := by decide +kernel
theorem d_RS_keepRun_19 : decode c_RS_keepRun 19 = .ok (.aload_n 0, 1) := by decide +kernel
theorem d_RS_keepRun_20 : decode c_RS_keepRun 20 = .ok (.getfield 28, 3) := by decide +kernel
theorem d_RS_keepRun_23 : decode c_RS_keepRun 23 = .ok (.getfield 179, 3) := by decide +kernel
theorem d_RS_keepRun_26 : decode c_RS_keepRun 26 = .ok (.putfield 42, 3) := by decide +kernel
theorem d_RS_keepRun_29 : decode c_RS_keepRun 29 = .ok (.return_, 1) := by decide +kernel
theorem d_RS_normal_0 : decode c_RS_normal 0 = .ok (.aload_n 0, 1) := by decide +kernel
theorem d_RS_normal_1 : decode c_RS_normal 1 = .ok (.iload_n 1, 1) := by decide +kernel
theorem d_RS_normal_2 : decode c_RS_normal 2 = .ok (.invokevirtual 67, 3) := by decide +kernel
theorem d_RS_normal_5 : decode c_RS_normal 5 = .ok (.aload_n 0, 1) := by decide +kernel
theorem d_RS_normal_6 : decode c_RS_normal 6 = .ok (.iload_n 1, 1) := by decide +kernel
theorem d_RS_normal_7 : decode c_RS_normal 7 = .ok (.invokevirtual 105, 3) := by decide +kernel
theorem d_RS_normal_10 : decode c_RS_normal 10 = .ok (.aload_n 0, 1) := by decide +kernel
theorem d_RS_normal_11 : decode c_RS_normal 11 = .ok (.getfield 10, 3) := by decide +kernel
theorem d_RS_normal_14 : decode c_RS_normal 14 = .ok (.getfield 110, 3) := by decide +kernel
theorem d_RS_normal_17 : decode c_RS_normal 17 = .ok (.istore_n 2, 1) := by decide +kernel
theorem d_RS_normal_18 : decode c_RS_normal 18 = .ok (.aload_n 0, 1) := by decide +kernel
theorem d_RS_normal_19 : decode c_RS_normal 19 = .ok (.aload_n 0, 1) := by decide +kernel
theorem d_RS_normal_20 : decode c_RS_normal 20 = .ok (.getfield 28, 3) := by decide +kernel
theorem d_RS_normal_23 : decode c_RS_normal 23 = .ok (.iload_n 1, 1) := by decide +kernel
theorem d_RS_normal_24 : decode c_RS_normal 24 = .ok (.sipush 1000, 3) := by decide +kernel
theorem d_RS_normal_27 : decode c_RS_normal 27 = .ok (.iconst 1, 1) := by decide +kernel
theorem d_RS_normal_28 : decode c_RS_normal 28 = .ok (.aload_n 0, 1) := by decide +kernel
theorem d_RS_normal_29 : decode c_RS_normal 29 = .ok (.getfield 39, 3) := by decide +kernel
theorem d_RS_normal_32 : decode c_RS_normal 32 = .ok (.invokevirtual 113, 3) := by decide +kernel
theorem d_RS_normal_35 : decode c_RS_normal 35 = .ok (.iload_n 2, 1) := by decide +kernel
theorem d_RS_normal_36 : decode c_RS_normal 36 = .ok (.invokevirtual 117, 3) := by decide +kernel
theorem d_RS_normal_39 : decode c_RS_normal 39 = .ok (.istore_n 3, 1) := by decide +kernel
theorem d_RS_normal_40 : decode c_RS_normal 40 = .ok (.aload_n 0, 1) := by decide +kernel
theorem d_RS_normal_41 : decode c_RS_normal 41 = .ok (.invokevirtual 121, 3) := by decide +kernel
theorem d_RS_normal_44 : decode c_RS_normal 44 = .ok (.iload_n 3, 1) := by decide +kernel
theorem d_RS_normal_45 : decode c_RS_normal 45 = .ok (.ireturn, 1) := by decide +kernel
theorem d_RS_joins_0 : decode c_RS_joins 0 = .ok (.aload_n 0, 1) := by decide +kernel
theorem d_RS_joins_1 : decode c_RS_joins 1 = .ok (.iload_n 1, 1) := by decide +kernel
theorem d_RS_joins_2 : decode c_RS_joins 2 = .ok (.invokevirtual 67, 3) := by decide +kernel
theorem d_RS_joins_5 : decode c_RS_joins 5 = .ok (.aload_n 0, 1) := by decide +kernel
theorem d_RS_joins_6 : decode c_RS_joins 6 = .ok (.iload_n 2, 1) := by decide +kernel
theorem d_RS_joins_7 : decode c_RS_joins 7 = .ok (.invokevirtual 67, 3) := by decide +kernel
theorem d_RS_joins_10 : decode c_RS_joins 10 = .ok (.aload_n 0, 1) := by decide +kernel
theorem d_RS_joins_11 : decode c_RS_joins 11 = .ok (.iload_n 1, 1) := by decide +kernel
theorem d_RS_joins_12 : decode c_RS_joins 12 = .ok (.invokevirtual 105, 3) := by decide +kernel
theorem d_RS_joins_15 : decode c_RS_joins 15 = .ok (.aload_n 0, 1) := by decide +kernel
theorem d_RS_joins_16 : decode c_RS_joins 16 = .ok (.iload_n 2, 1) := by decide +kernel
theorem d_RS_joins_17 : decode c_RS_joins 17 = .ok (.invokevirtual 105, 3) := by decide +kernel
theorem d_RS_joins_20 : decode c_RS_joins 20 = .ok (.aload_n 0, 1) := by decide +kernel
theorem d_RS_joins_21 : decode c_RS_joins 21 = .ok (.getfield 10, 3) := by decide +kernel
theorem d_RS_joins_24 : decode c_RS_joins 24 = .ok (.getfield 110, 3) := by decide +kernel
theorem d_RS_joins_27 : decode c_RS_joins 27 = .ok (.istore_n 3, 1) := by decide +kernel
theorem d_RS_joins_28 : decode c_RS_joins 28 = .ok (.aload_n 0, 1) := by decide +kernel
theorem d_RS_joins_29 : decode c_RS_joins 29 = .ok (.aload_n 0, 1) := by decide +kernel
theorem d_RS_joins_30 : decode c_RS_joins 30 = .ok (.getfield 28, 3) := by decide +kernel
theorem d_RS_joins_33 : decode c_RS_joins 33 = .ok (.iload_n 1, 1) := by decide +kernel
theorem d_RS_joins_34 : decode c_RS_joins 34 = .ok (.sipush 1000, 3) := by decide +kernel
theorem d_RS_joins_37 : decode c_RS_joins 37 = .ok (.iconst 1, 1) := by decide +kernel
theorem d_RS_joins_38 : decode c_RS_joins 38 = .ok (.aload_n 0, 1) := by decide +kernel
theorem d_RS_joins_39 : decode c_RS_joins 39 = .ok (.getfield 39, 3) := by decide +kernel
theorem d_RS_joins_42 : decode c_RS_joins 42 = .ok (.invokevirtual 113, 3) := by decide +kernel
theorem d_RS_joins_45 : decode c_RS_joins 45 = .ok (.iload_n 3, 1) := by decide +kernel
theorem d_RS_joins_46 : decode c_RS_joins 46 = .ok (.invokevirtual 117, 3) := by decide +kernel
theorem d_RS_joins_49 : decode c_RS_joins 49 = .ok (.istore 4, 2) := by decide +kernel
theorem d_RS_joins_51 : decode c_RS_joins 51 = .ok (.aload_n 0, 1) := by decide +kernel
theorem d_RS_joins_52 : decode c_RS_joins 52 = .ok (.aload_n 0, 1) := by decide +kernel
theorem d_RS_joins_53 : decode c_RS_joins 53 = .ok (.getfield 28, 3) := by decide +kernel
theorem d_RS_joins_56 : decode c_RS_joins 56 = .ok (.iload_n 2, 1) := by decide +kernel
theorem d_RS_joins_57 : decode c_RS_joins 57 = .ok (.sipush 1000, 3) := by decide +kernel
theorem d_RS_joins_60 : decode c_RS_joins 60 = .ok (.iconst 1, 1) := by decide +kernel
theorem d_RS_joins_61 : decode c_RS_joins 61 = .ok (.aload_n 0, 1) := by decide +kernel
theorem d_RS_joins_62 : decode c_RS_joins 62 = .ok (.getfield 39, 3) := by decide +kernel
theorem d_RS_joins_65 : decode c_RS_joins 65 = .ok (.invokevirtual 113, 3) := by decide +kernel
theorem d_RS_joins_68 : decode c_RS_joins 68 = .ok (.iload_n 3, 1) := by decide +kernel
theorem d_RS_joins_69 : decode c_RS_joins 69 = .ok (.invokevirtual 117, 3) := by decide +kernel
theorem d_RS_joins_72 : decode c_RS_joins 72 = .ok (.istore 5, 2) := by decide +kernel
theorem d_RS_joins_74 : decode c_RS_joins 74 = .ok (.iload 4, 2) := by decide +kernel
theorem d_RS_joins_76 : decode c_RS_joins 76 = .ok (.iload 5, 2) := by decide +kernel
theorem d_RS_joins_78 : decode c_RS_joins 78 = .ok (.if_icmp .ne 7, 3) := by decide +kernel
theorem d_RS_joins_81 : decode c_RS_joins 81 = .ok (.iconst 1, 1) := by decide +kernel
theorem d_RS_joins_82 : decode c_RS_joins 82 = .ok (.goto 4, 3) := by decide +kernel
theorem d_RS_joins_85 : decode c_RS_joins 85 = .ok (.iconst 0, 1) := by decide +kernel
theorem d_RS_joins_86 : decode c_RS_joins 86 = .ok (.ireturn, 1) := by decide +kernel
theorem d_RS_row_0 : decode c_RS_row 0 = .ok (.iload_n 1, 1) := by decide +kernel
theorem d_RS_row_1 : decode c_RS_row 1 = .ok (.ifCond .lt 14, 3) := by decide +kernel
theorem d_RS_row_4 : decode c_RS_row 4 = .ok (.iload_n 1, 1) := by decide +kernel
theorem d_RS_row_5 : decode c_RS_row 5 = .ok (.aload_n 0, 1) := by decide +kernel
theorem d_RS_row_6 : decode c_RS_row 6 = .ok (.getfield 35, 3) := by decide +kernel
theorem d_RS_row_9 : decode c_RS_row 9 = .ok (.getfield 127, 3) := by decide +kernel
theorem d_RS_row_12 : decode c_RS_row 12 = .ok (.if_icmp .lt 13, 3) := by decide +kernel
theorem d_RS_row_15 : decode c_RS_row 15 = .ok (.new 128, 3) := by decide +kernel
theorem d_RS_row_18 : decode c_RS_row 18 = .ok (.dup, 1) := by decide +kernel
theorem d_RS_row_19 : decode c_RS_row 19 = .ok (.ldc 130, 2) := by decide +kernel
theorem d_RS_row_21 : decode c_RS_row 21 = .ok (.invokespecial 132, 3) := by decide +kernel
theorem d_RS_row_24 : decode c_RS_row 24 = .ok (.athrow, 1) := by decide +kernel
theorem d_RS_row_25 : decode c_RS_row 25 = .ok (.iload_n 2, 1) := by decide +kernel
theorem d_RS_row_26 : decode c_RS_row 26 = .ok (.ifCond .lt 8, 3) := by decide +kernel
theorem d_RS_row_29 : decode c_RS_row 29 = .ok (.iload_n 2, 1) := by decide +kernel
theorem d_RS_row_30 : decode c_RS_row 30 = .ok (.iconst 4, 1) := by decide +kernel
theorem d_RS_row_31 : decode c_RS_row 31 = .ok (.if_icmp .lt 13, 3) := by decide +kernel
theorem d_RS_row_34 : decode c_RS_row 34 = .ok (.new 50, 3) := by decide +kernel
theorem d_RS_row_37 : decode c_RS_row 37 = .ok (.dup, 1) := by decide +kernel
theorem d_RS_row_38 : decode c_RS_row 38 = .ok (.ldc 133, 2) := by decide +kernel
theorem d_RS_row_40 : decode c_RS_row 40 = .ok (.invokespecial 54, 3) := by decide +kernel
theorem d_RS_row_43 : decode c_RS_row 43 = .ok (.athrow, 1) := by decide +kernel
theorem d_RS_row_44 : decode c_RS_row 44 = .ok (.aload_n 0, 1) := by decide +kernel
theorem d_RS_row_45 : decode c_RS_row 45 = .ok (.getfield 35, 3) := by decide +kernel
theorem d_RS_row_48 : decode c_RS_row 48 = .ok (.iload_n 1, 1) := by decide +kernel
theorem d_RS_row_49 : decode c_RS_row 49 = .ok (.iload_n 2, 1) := by decide +kernel
theorem d_RS_row_50 : decode c_RS_row 50 = .ok (.invokevirtual 135, 3) := by decide +kernel
theorem d_RS_row_53 : decode c_RS_row 53 = .ok (.ireturn, 1) := by decide +kernel
theorem d_RS_lessens_0 : decode c_RS_lessens 0 = .ok (.aload_n 0, 1) := by decide +kernel
theorem d_RS_lessens_1 : decode c_RS_lessens 1 = .ok (.iload_n 1, 1) := by decide +kernel
theorem d_RS_lessens_2 : decode c_RS_lessens 2 = .ok (.invokevirtual 98, 3) := by decide +kernel
theorem d_RS_lessens_5 : decode c_RS_lessens 5 = .ok (.aload_n 0, 1) := by decide +kernel
theorem d_RS_lessens_6 : decode c_RS_lessens 6 = .ok (.getfield 19, 3) := by decide +kernel
theorem d_RS_lessens_9 : decode c_RS_lessens 9 = .ok (.getfield 141, 3) := by decide +kernel
theorem d_RS_lessens_12 : decode c_RS_lessens 12 = .ok (.iload_n 1, 1) := by decide +kernel
theorem d_RS_lessens_13 : decode c_RS_lessens 13 = .ok (.baload, 1) := by decide +kernel
theorem d_RS_lessens_14 : decode c_RS_lessens 14 = .ok (.ireturn, 1) := by decide +kernel
theorem d_RS_usable_0 : decode c_RS_usable 0 = .ok (.aload_n 0, 1) := by decide +kernel
theorem d_RS_usable_1 : decode c_RS_usable 1 = .ok (.iload_n 1, 1) := by decide +kernel
theorem d_RS_usable_2 : decode c_RS_usable 2 = .ok (.invokevirtual 98, 3) := by decide +kernel
theorem d_RS_usable_5 : decode c_RS_usable 5 = .ok (.aload_n 0, 1) := by decide +kernel
theorem d_RS_usable_6 : decode c_RS_usable 6 = .ok (.getfield 19, 3) := by decide +kernel
theorem d_RS_usable_9 : decode c_RS_usable 9 = .ok (.iload_n 1, 1) := by decide +kernel
theorem d_RS_usable_10 : decode c_RS_usable 10 = .ok (.invokevirtual 144, 3) := by decide +kernel
theorem d_RS_usable_13 : decode c_RS_usable 13 = .ok (.ireturn, 1) := by decide +kernel
theorem d_RS_above_0 : decode c_RS_above 0 = .ok (.aload_n 0, 1) := by decide +kernel
theorem d_RS_above_1 : decode c_RS_above 1 = .ok (.iload_n 1, 1) := by decide +kernel
theorem d_RS_above_2 : decode c_RS_above 2 = .ok (.invokevirtual 67, 3) := by decide +kernel
theorem d_RS_above_5 : decode c_RS_above 5 = .ok (.aload_n 0, 1) := by decide +kernel
theorem d_RS_above_6 : decode c_RS_above 6 = .ok (.iload_n 2, 1) := by decide +kernel
theorem d_RS_above_7 : decode c_RS_above 7 = .ok (.invokevirtual 67, 3) := by decide +kernel
theorem d_RS_above_10 : decode c_RS_above 10 = .ok (.aload_n 0, 1) := by decide +kernel
theorem d_RS_above_11 : decode c_RS_above 11 = .ok (.getfield 10, 3) := by decide +kernel
theorem d_RS_above_14 : decode c_RS_above 14 = .ok (.iload_n 1, 1) := by decide +kernel
theorem d_RS_above_15 : decode c_RS_above 15 = .ok (.iload_n 2, 1) := by decide +kernel
theorem d_RS_above_16 : decode c_RS_above 16 = .ok (.invokevirtual 85, 3) := by decide +kernel
theorem d_RS_above_19 : decode c_RS_above 19 = .ok (.ireturn, 1) := by decide +kernel
theorem d_RS_measure_0 : decode c_RS_measure 0 = .ok (.aload_n 0, 1) := by decide +kernel
theorem d_RS_measure_1 : decode c_RS_measure 1 = .ok (.iload_n 1, 1) := by decide +kernel
theorem d_RS_measure_2 : decode c_RS_measure 2 = .ok (.invokevirtual 67, 3) := by decide +kernel
theorem d_RS_measure_5 : decode c_RS_measure 5 = .ok (.iload_n 2, 1) := by decide +kernel
theorem d_RS_measure_6 : decode c_RS_measure 6 = .ok (.ifCond .lt 8, 3) := by decide +kernel
theorem d_RS_measure_9 : decode c_RS_measure 9 = .ok (.iload_n 2, 1) := by decide +kernel
theorem d_RS_measure_10 : decode c_RS_measure 10 = .ok (.iconst 4, 1) := by decide +kernel
theorem d_RS_measure_11 : decode c_RS_measure 11 = .ok (.if_icmp .lt 13, 3) := by decide +kernel
theorem d_RS_measure_14 : decode c_RS_measure 14 = .ok (.new 50, 3) := by decide +kernel
theorem d_RS_measure_17 : decode c_RS_measure 17 = .ok (.dup, 1) := by decide +kernel
theorem d_RS_measure_18 : decode c_RS_measure 18 = .ok (.ldc 147, 2) := by decide +kernel
theorem d_RS_measure_20 : decode c_RS_measure 20 = .ok (.invokespecial 54, 3) := by decide +kernel
theorem d_RS_measure_23 : decode c_RS_measure 23 = .ok (.athrow, 1) := by decide +kernel
theorem d_RS_measure_24 : decode c_RS_measure 24 = .ok (.iload_n 2, 1) := by decide +kernel
theorem d_RS_measure_25 : decode c_RS_measure 25 = .ok (.tableswitch 57 0 2 #[27, 37, 47], 27) := by decide +kernel
theorem d_RS_measure_52 : decode c_RS_measure 52 = .ok (.aload_n 0, 1) := by decide +kernel
theorem d_RS_measure_53 : decode c_RS_measure 53 = .ok (.getfield 10, 3) := by decide +kernel
theorem d_RS_measure_56 : decode c_RS_measure 56 = .ok (.getfield 149, 3) := by decide +kernel
theorem d_RS_measure_59 : decode c_RS_measure 59 = .ok (.iload_n 1, 1) := by decide +kernel
theorem d_RS_measure_60 : decode c_RS_measure 60 = .ok (.iaload, 1) := by decide +kernel
theorem d_RS_measure_61 : decode c_RS_measure 61 = .ok (.ireturn, 1) := by decide +kernel
theorem d_RS_measure_62 : decode c_RS_measure 62 = .ok (.aload_n 0, 1) := by decide +kernel
theorem d_RS_measure_63 : decode c_RS_measure 63 = .ok (.getfield 10, 3) := by decide +kernel
theorem d_RS_measure_66 : decode c_RS_measure 66 = .ok (.getfield 152, 3) := by decide +kernel
theorem d_RS_measure_69 : decode c_RS_measure 69 = .ok (.iload_n 1, 1) := by decide +kernel
theorem d_RS_measure_70 : decode c_RS_measure 70 = .ok (.iaload, 1) := by decide +kernel
theorem d_RS_measure_71 : decode c_RS_measure 71 = .ok (.ireturn, 1) := by decide +kernel
theorem d_RS_measure_72 : decode c_RS_measure 72 = .ok (.aload_n 0, 1) := by decide +kernel
theorem d_RS_measure_73 : decode c_RS_measure 73 = .ok (.getfield 10, 3) := by decide +kernel
theorem d_RS_measure_76 : decode c_RS_measure 76 = .ok (.getfield 155, 3) := by decide +kernel
theorem d_RS_measure_79 : decode c_RS_measure 79 = .ok (.iload_n 1, 1) := by decide +kernel
theorem d_RS_measure_80 : decode c_RS_measure 80 = .ok (.iaload, 1) := by decide +kernel
theorem d_RS_measure_81 : decode c_RS_measure 81 = .ok (.ireturn, 1) := by decide +kernel
theorem d_RS_measure_82 : decode c_RS_measure 82 = .ok (.aload_n 0, 1) := by decide +kernel
theorem d_RS_measure_83 : decode c_RS_measure 83 = .ok (.getfield 10, 3) := by decide +kernel
theorem d_RS_measure_86 : decode c_RS_measure 86 = .ok (.getfield 77, 3) := by decide +kernel
theorem d_RS_measure_89 : decode c_RS_measure 89 = .ok (.iload_n 1, 1) := by decide +kernel
theorem d_RS_measure_90 : decode c_RS_measure 90 = .ok (.iaload, 1) := by decide +kernel
theorem d_RS_measure_91 : decode c_RS_measure 91 = .ok (.ireturn, 1) := by decide +kernel
theorem d_RS_at_0 : decode c_RS_at 0 = .ok (.aload_n 0, 1) := by decide +kernel
theorem d_RS_at_1 : decode c_RS_at 1 = .ok (.iload_n 1, 1) := by decide +kernel
theorem d_RS_at_2 : decode c_RS_at 2 = .ok (.invokevirtual 67, 3) := by decide +kernel
theorem d_RS_at_5 : decode c_RS_at 5 = .ok (.aload_n 0, 1) := by decide +kernel
theorem d_RS_at_6 : decode c_RS_at 6 = .ok (.getfield 10, 3) := by decide +kernel
theorem d_RS_at_9 : decode c_RS_at 9 = .ok (.iload_n 1, 1) := by decide +kernel
theorem d_RS_at_10 : decode c_RS_at 10 = .ok (.iload_n 2, 1) := by decide +kernel
theorem d_RS_at_11 : decode c_RS_at 11 = .ok (.invokevirtual 158, 3) := by decide +kernel
theorem d_RS_at_14 : decode c_RS_at 14 = .ok (.ireturn, 1) := by decide +kernel
theorem d_RS_head_0 : decode c_RS_head 0 = .ok (.aload_n 0, 1) := by decide +kernel
theorem d_RS_head_1 : decode c_RS_head 1 = .ok (.iload_n 1, 1) := by decide +kernel
theorem d_RS_head_2 : decode c_RS_head 2 = .ok (.invokevirtual 67, 3) := by decide +kernel
theorem d_RS_head_5 : decode c_RS_head 5 = .ok (.aload_n 0, 1) := by decide +kernel
theorem d_RS_head_6 : decode c_RS_head 6 = .ok (.getfield 10, 3) := by decide +kernel
theorem d_RS_head_9 : decode c_RS_head 9 = .ok (.getfield 161, 3) := by decide +kernel
theorem d_RS_head_12 : decode c_RS_head 12 = .ok (.iload_n 1, 1) := by decide +kernel
theorem d_RS_head_13 : decode c_RS_head 13 = .ok (.iaload, 1) := by decide +kernel
theorem d_RS_head_14 : decode c_RS_head 14 = .ok (.ireturn, 1) := by decide +kernel
