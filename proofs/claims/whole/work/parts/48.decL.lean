/-! decode rows of the law, laid by a program -/
theorem d_La_leaf_0 : decode c_La_leaf 0 = .ok (.aload_n 2, 1) := by decide +kernel
theorem d_La_leaf_1 : decode c_La_leaf 1 = .ok (.iconst 0, 1) := by decide +kernel
theorem d_La_leaf_2 : decode c_La_leaf 2 = .ok (.aload_n 0, 1) := by decide +kernel
theorem d_La_leaf_3 : decode c_La_leaf 3 = .ok (.iload_n 1, 1) := by decide +kernel
theorem d_La_leaf_4 : decode c_La_leaf 4 = .ok (.invokevirtual 7, 3) := by decide +kernel
theorem d_La_leaf_7 : decode c_La_leaf 7 = .ok (.i2l, 1) := by decide +kernel
theorem d_La_leaf_8 : decode c_La_leaf 8 = .ok (.lastore, 1) := by decide +kernel
theorem d_La_leaf_9 : decode c_La_leaf 9 = .ok (.goto 9, 3) := by decide +kernel
theorem d_La_leaf_12 : decode c_La_leaf 12 = .ok (.astore_n 3, 1) := by decide +kernel
theorem d_La_leaf_13 : decode c_La_leaf 13 = .ok (.iconst 1, 1) := by decide +kernel
theorem d_La_leaf_14 : decode c_La_leaf 14 = .ok (.ireturn, 1) := by decide +kernel
theorem d_La_leaf_15 : decode c_La_leaf 15 = .ok (.astore_n 3, 1) := by decide +kernel
theorem d_La_leaf_16 : decode c_La_leaf 16 = .ok (.iconst 2, 1) := by decide +kernel
theorem d_La_leaf_17 : decode c_La_leaf 17 = .ok (.ireturn, 1) := by decide +kernel
theorem d_La_leaf_18 : decode c_La_leaf 18 = .ok (.iconst 0, 1) := by decide +kernel
theorem d_La_leaf_19 : decode c_La_leaf 19 = .ok (.ireturn, 1) := by decide +kernel
theorem d_La_hole_0 : decode c_La_hole 0 = .ok (.aload_n 2, 1) := by decide +kernel
theorem d_La_hole_1 : decode c_La_hole 1 = .ok (.iconst 0, 1) := by decide +kernel
theorem d_La_hole_2 : decode c_La_hole 2 = .ok (.aload_n 0, 1) := by decide +kernel
theorem d_La_hole_3 : decode c_La_hole 3 = .ok (.iload_n 1, 1) := by decide +kernel
theorem d_La_hole_4 : decode c_La_hole 4 = .ok (.invokevirtual 17, 3) := by decide +kernel
theorem d_La_hole_7 : decode c_La_hole 7 = .ok (.i2l, 1) := by decide +kernel
theorem d_La_hole_8 : decode c_La_hole 8 = .ok (.lastore, 1) := by decide +kernel
theorem d_La_hole_9 : decode c_La_hole 9 = .ok (.goto 9, 3) := by decide +kernel
theorem d_La_hole_12 : decode c_La_hole 12 = .ok (.astore_n 3, 1) := by decide +kernel
theorem d_La_hole_13 : decode c_La_hole 13 = .ok (.iconst 1, 1) := by decide +kernel
theorem d_La_hole_14 : decode c_La_hole 14 = .ok (.ireturn, 1) := by decide +kernel
theorem d_La_hole_15 : decode c_La_hole 15 = .ok (.astore_n 3, 1) := by decide +kernel
theorem d_La_hole_16 : decode c_La_hole 16 = .ok (.iconst 2, 1) := by decide +kernel
theorem d_La_hole_17 : decode c_La_hole 17 = .ok (.ireturn, 1) := by decide +kernel
theorem d_La_hole_18 : decode c_La_hole 18 = .ok (.iconst 0, 1) := by decide +kernel
theorem d_La_hole_19 : decode c_La_hole 19 = .ok (.ireturn, 1) := by decide +kernel
theorem d_La_node_0 : decode c_La_node 0 = .ok (.aload 4, 2) := by decide +kernel
theorem d_La_node_2 : decode c_La_node 2 = .ok (.iconst 0, 1) := by decide +kernel
theorem d_La_node_3 : decode c_La_node 3 = .ok (.aload_n 0, 1) := by decide +kernel
theorem d_La_node_4 : decode c_La_node 4 = .ok (.iload_n 1, 1) := by decide +kernel
theorem d_La_node_5 : decode c_La_node 5 = .ok (.iload_n 2, 1) := by decide +kernel
theorem d_La_node_6 : decode c_La_node 6 = .ok (.iload_n 3, 1) := by decide +kernel
theorem d_La_node_7 : decode c_La_node 7 = .ok (.invokevirtual 20, 3) := by decide +kernel
theorem d_La_node_10 : decode c_La_node 10 = .ok (.i2l, 1) := by decide +kernel
theorem d_La_node_11 : decode c_La_node 11 = .ok (.lastore, 1) := by decide +kernel
theorem d_La_node_12 : decode c_La_node 12 = .ok (.goto 15, 3) := by decide +kernel
theorem d_La_node_15 : decode c_La_node 15 = .ok (.astore 5, 2) := by decide +kernel
theorem d_La_node_17 : decode c_La_node 17 = .ok (.iconst 1, 1) := by decide +kernel
theorem d_La_node_18 : decode c_La_node 18 = .ok (.ireturn, 1) := by decide +kernel
theorem d_La_node_19 : decode c_La_node 19 = .ok (.astore 5, 2) := by decide +kernel
theorem d_La_node_21 : decode c_La_node 21 = .ok (.iconst 2, 1) := by decide +kernel
theorem d_La_node_22 : decode c_La_node 22 = .ok (.ireturn, 1) := by decide +kernel
theorem d_La_node_23 : decode c_La_node 23 = .ok (.astore 5, 2) := by decide +kernel
theorem d_La_node_25 : decode c_La_node 25 = .ok (.iconst 3, 1) := by decide +kernel
theorem d_La_node_26 : decode c_La_node 26 = .ok (.ireturn, 1) := by decide +kernel
theorem d_La_node_27 : decode c_La_node 27 = .ok (.iconst 0, 1) := by decide +kernel
theorem d_La_node_28 : decode c_La_node 28 = .ok (.ireturn, 1) := by decide +kernel
theorem d_La_rule_0 : decode c_La_rule 0 = .ok (.aload 4, 2) := by decide +kernel
theorem d_La_rule_2 : decode c_La_rule 2 = .ok (.iconst 0, 1) := by decide +kernel
theorem d_La_rule_3 : decode c_La_rule 3 = .ok (.aload_n 0, 1) := by decide +kernel
theorem d_La_rule_4 : decode c_La_rule 4 = .ok (.iload_n 1, 1) := by decide +kernel
theorem d_La_rule_5 : decode c_La_rule 5 = .ok (.iload_n 2, 1) := by decide +kernel
theorem d_La_rule_6 : decode c_La_rule 6 = .ok (.iload_n 3, 1) := by decide +kernel
theorem d_La_rule_7 : decode c_La_rule 7 = .ok (.invokevirtual 26, 3) := by decide +kernel
theorem d_La_rule_10 : decode c_La_rule 10 = .ok (.i2l, 1) := by decide +kernel
theorem d_La_rule_11 : decode c_La_rule 11 = .ok (.lastore, 1) := by decide +kernel
theorem d_La_rule_12 : decode c_La_rule 12 = .ok (.goto 11, 3) := by decide +kernel
theorem d_La_rule_15 : decode c_La_rule 15 = .ok (.astore 5, 2) := by decide +kernel
theorem d_La_rule_17 : decode c_La_rule 17 = .ok (.iconst 1, 1) := by decide +kernel
theorem d_La_rule_18 : decode c_La_rule 18 = .ok (.ireturn, 1) := by decide +kernel
theorem d_La_rule_19 : decode c_La_rule 19 = .ok (.astore 5, 2) := by decide +kernel
theorem d_La_rule_21 : decode c_La_rule 21 = .ok (.iconst 2, 1) := by decide +kernel
theorem d_La_rule_22 : decode c_La_rule 22 = .ok (.ireturn, 1) := by decide +kernel
theorem d_La_rule_23 : decode c_La_rule 23 = .ok (.iconst 0, 1) := by decide +kernel
theorem d_La_rule_24 : decode c_La_rule 24 = .ok (.ireturn, 1) := by decide +kernel
theorem d_La_holds_0 : decode c_La_holds 0 = .ok (.aload_n 3, 1) := by decide +kernel
theorem d_La_holds_1 : decode c_La_holds 1 = .ok (.iconst 0, 1) := by decide +kernel
theorem d_La_holds_2 : decode c_La_holds 2 = .ok (.aload_n 0, 1) := by decide +kernel
theorem d_La_holds_3 : decode c_La_holds 3 = .ok (.iload_n 1, 1) := by decide +kernel
theorem d_La_holds_4 : decode c_La_holds 4 = .ok (.iload_n 2, 1) := by decide +kernel
theorem d_La_holds_5 : decode c_La_holds 5 = .ok (.invokevirtual 29, 3) := by decide +kernel
theorem d_La_holds_8 : decode c_La_holds 8 = .ok (.ifCond .eq 7, 3) := by decide +kernel
theorem d_La_holds_11 : decode c_La_holds 11 = .ok (.lconst 1, 1) := by decide +kernel
theorem d_La_holds_12 : decode c_La_holds 12 = .ok (.goto 4, 3) := by decide +kernel
theorem d_La_holds_15 : decode c_La_holds 15 = .ok (.lconst 0, 1) := by decide +kernel
theorem d_La_holds_16 : decode c_La_holds 16 = .ok (.lastore, 1) := by decide +kernel
theorem d_La_holds_17 : decode c_La_holds 17 = .ok (.goto 7, 3) := by decide +kernel
theorem d_La_holds_20 : decode c_La_holds 20 = .ok (.astore 4, 2) := by decide +kernel
theorem d_La_holds_22 : decode c_La_holds 22 = .ok (.iconst 1, 1) := by decide +kernel
theorem d_La_holds_23 : decode c_La_holds 23 = .ok (.ireturn, 1) := by decide +kernel
theorem d_La_holds_24 : decode c_La_holds 24 = .ok (.iconst 0, 1) := by decide +kernel
theorem d_La_holds_25 : decode c_La_holds 25 = .ok (.ireturn, 1) := by decide +kernel
theorem d_La_choose_0 : decode c_La_choose 0 = .ok (.aload_n 3, 1) := by decide +kernel
theorem d_La_choose_1 : decode c_La_choose 1 = .ok (.iconst 0, 1) := by decide +kernel
theorem d_La_choose_2 : decode c_La_choose 2 = .ok (.aload_n 0, 1) := by decide +kernel
theorem d_La_choose_3 : decode c_La_choose 3 = .ok (.iload_n 1, 1) := by decide +kernel
theorem d_La_choose_4 : decode c_La_choose 4 = .ok (.iload_n 2, 1) := by decide +kernel
theorem d_La_choose_5 : decode c_La_choose 5 = .ok (.invokevirtual 33, 3) := by decide +kernel
theorem d_La_choose_8 : decode c_La_choose 8 = .ok (.ifCond .eq 7, 3) := by decide +kernel
theorem d_La_choose_11 : decode c_La_choose 11 = .ok (.lconst 1, 1) := by decide +kernel
theorem d_La_choose_12 : decode c_La_choose 12 = .ok (.goto 4, 3) := by decide +kernel
theorem d_La_choose_15 : decode c_La_choose 15 = .ok (.lconst 0, 1) := by decide +kernel
theorem d_La_choose_16 : decode c_La_choose 16 = .ok (.lastore, 1) := by decide +kernel
theorem d_La_choose_17 : decode c_La_choose 17 = .ok (.goto 7, 3) := by decide +kernel
theorem d_La_choose_20 : decode c_La_choose 20 = .ok (.astore 4, 2) := by decide +kernel
theorem d_La_choose_22 : decode c_La_choose 22 = .ok (.iconst 1, 1) := by decide +kernel
theorem d_La_choose_23 : decode c_La_choose 23 = .ok (.ireturn, 1) := by decide +kernel
theorem d_La_choose_24 : decode c_La_choose 24 = .ok (.iconst 0, 1) := by decide +kernel
theorem d_La_choose_25 : decode c_La_choose 25 = .ok (.ireturn, 1) := by decide +kernel
theorem d_La_rewrite_0 : decode c_La_rewrite 0 = .ok (.aload_n 3, 1) := by decide +kernel
theorem d_La_rewrite_1 : decode c_La_rewrite 1 = .ok (.iconst 0, 1) := by decide +kernel
theorem d_La_rewrite_2 : decode c_La_rewrite 2 = .ok (.aload_n 0, 1) := by decide +kernel
theorem d_La_rewrite_3 : decode c_La_rewrite 3 = .ok (.iload_n 1, 1) := by decide +kernel
theorem d_La_rewrite_4 : decode c_La_rewrite 4 = .ok (.iload_n 2, 1) := by decide +kernel
theorem d_La_rewrite_5 : decode c_La_rewrite 5 = .ok (.invokevirtual 37, 3) := by decide +kernel
theorem d_La_rewrite_8 : decode c_La_rewrite 8 = .ok (.i2l, 1) := by decide +kernel
theorem d_La_rewrite_9 : decode c_La_rewrite 9 = .ok (.lastore, 1) := by decide +kernel
theorem d_La_rewrite_10 : decode c_La_rewrite 10 = .ok (.goto 15, 3) := by decide +kernel
theorem d_La_rewrite_13 : decode c_La_rewrite 13 = .ok (.astore 4, 2) := by decide +kernel
theorem d_La_rewrite_15 : decode c_La_rewrite 15 = .ok (.iconst 1, 1) := by decide +kernel
theorem d_La_rewrite_16 : decode c_La_rewrite 16 = .ok (.ireturn, 1) := by decide +kernel
theorem d_La_rewrite_17 : decode c_La_rewrite 17 = .ok (.astore 4, 2) := by decide +kernel
theorem d_La_rewrite_19 : decode c_La_rewrite 19 = .ok (.iconst 2, 1) := by decide +kernel
theorem d_La_rewrite_20 : decode c_La_rewrite 20 = .ok (.ireturn, 1) := by decide +kernel
theorem d_La_rewrite_21 : decode c_La_rewrite 21 = .ok (.astore 4, 2) := by decide +kernel
theorem d_La_rewrite_23 : decode c_La_rewrite 23 = .ok (.iconst 3, 1) := by decide +kernel
theorem d_La_rewrite_24 : decode c_La_rewrite 24 = .ok (.ireturn, 1) := by decide +kernel
theorem d_La_rewrite_25 : decode c_La_rewrite 25 = .ok (.iconst 0, 1) := by decide +kernel
theorem d_La_rewrite_26 : decode c_La_rewrite 26 = .ok (.ireturn, 1) := by decide +kernel
theorem d_La_normal_0 : decode c_La_normal 0 = .ok (.aload_n 2, 1) := by decide +kernel
theorem d_La_normal_1 : decode c_La_normal 1 = .ok (.iconst 0, 1) := by decide +kernel
theorem d_La_normal_2 : decode c_La_normal 2 = .ok (.aload_n 0, 1) := by decide +kernel
theorem d_La_normal_3 : decode c_La_normal 3 = .ok (.iload_n 1, 1) := by decide +kernel
theorem d_La_normal_4 : decode c_La_normal 4 = .ok (.invokevirtual 41, 3) := by decide +kernel
theorem d_La_normal_7 : decode c_La_normal 7 = .ok (.i2l, 1) := by decide +kernel
theorem d_La_normal_8 : decode c_La_normal 8 = .ok (.lastore, 1) := by decide +kernel
theorem d_La_normal_9 : decode c_La_normal 9 = .ok (.goto 12, 3) := by decide +kernel
theorem d_La_normal_12 : decode c_La_normal 12 = .ok (.astore_n 3, 1) := by decide +kernel
theorem d_La_normal_13 : decode c_La_normal 13 = .ok (.iconst 1, 1) := by decide +kernel
theorem d_La_normal_14 : decode c_La_normal 14 = .ok (.ireturn, 1) := by decide +kernel
theorem d_La_normal_15 : decode c_La_normal 15 = .ok (.astore_n 3, 1) := by decide +kernel
theorem d_La_normal_16 : decode c_La_normal 16 = .ok (.iconst 2, 1) := by decide +kernel
theorem d_La_normal_17 : decode c_La_normal 17 = .ok (.ireturn, 1) := by decide +kernel
theorem d_La_normal_18 : decode c_La_normal 18 = .ok (.astore_n 3, 1) := by decide +kernel
theorem d_La_normal_19 : decode c_La_normal 19 = .ok (.iconst 3, 1) := by decide +kernel
theorem d_La_normal_20 : decode c_La_normal 20 = .ok (.ireturn, 1) := by decide +kernel
theorem d_La_normal_21 : decode c_La_normal 21 = .ok (.iconst 0, 1) := by decide +kernel
theorem d_La_normal_22 : decode c_La_normal 22 = .ok (.ireturn, 1) := by decide +kernel
theorem d_La_joins_0 : decode c_La_joins 0 = .ok (.aload_n 3, 1) := by decide +kernel
theorem d_La_joins_1 : decode c_La_joins 1 = .ok (.iconst 0, 1) := by decide +kernel
theorem d_La_joins_2 : decode c_La_joins 2 = .ok (.aload_n 0, 1) := by decide +kernel
theorem d_La_joins_3 : decode c_La_joins 3 = .ok (.iload_n 1, 1) := by decide +kernel
theorem d_La_joins_4 : decode c_La_joins 4 = .ok (.iload_n 2, 1) := by decide +kernel
theorem d_La_joins_5 : decode c_La_joins 5 = .ok (.invokevirtual 44, 3) := by decide +kernel
theorem d_La_joins_8 : decode c_La_joins 8 = .ok (.ifCond .eq 7, 3) := by decide +kernel
theorem d_La_joins_11 : decode c_La_joins 11 = .ok (.lconst 1, 1) := by decide +kernel
theorem d_La_joins_12 : decode c_La_joins 12 = .ok (.goto 4, 3) := by decide +kernel
theorem d_La_joins_15 : decode c_La_joins 15 = .ok (.lconst 0, 1) := by decide +kernel
theorem d_La_joins_16 : decode c_La_joins 16 = .ok (.lastore, 1) := by decide +kernel
theorem d_La_joins_17 : decode c_La_joins 17 = .ok (.goto 15, 3) := by decide +kernel
theorem d_La_joins_20 : decode c_La_joins 20 = .ok (.astore 4, 2) := by decide +kernel
theorem d_La_joins_22 : decode c_La_joins 22 = .ok (.iconst 1, 1) := by decide +kernel
theorem d_La_joins_23 : decode c_La_joins 23 = .ok (.ireturn, 1) := by decide +kernel
theorem d_La_joins_24 : decode c_La_joins 24 = .ok (.astore 4, 2) := by decide +kernel
theorem d_La_joins_26 : decode c_La_joins 26 = .ok (.iconst 2, 1) := by decide +kernel
theorem d_La_joins_27 : decode c_La_joins 27 = .ok (.ireturn, 1) := by decide +kernel
theorem d_La_joins_28 : decode c_La_joins 28 = .ok (.astore 4, 2) := by decide +kernel
theorem d_La_joins_30 : decode c_La_joins 30 = .ok (.iconst 3, 1) := by decide +kernel
theorem d_La_joins_31 : decode c_La_joins 31 = .ok (.ireturn, 1) := by decide +kernel
theorem d_La_joins_32 : decode c_La_joins 32 = .ok (.iconst 0, 1) := by decide +kernel
theorem d_La_joins_33 : decode c_La_joins 33 = .ok (.ireturn, 1) := by decide +kernel
theorem d_La_row_0 : decode c_La_row 0 = .ok (.aload_n 3, 1) := by decide +kernel
theorem d_La_row_1 : decode c_La_row 1 = .ok (.iconst 0, 1) := by decide +kernel
theorem d_La_row_2 : decode c_La_row 2 = .ok (.aload_n 0, 1) := by decide +kernel
theorem d_La_row_3 : decode c_La_row 3 = .ok (.iload_n 1, 1) := by decide +kernel
theorem d_La_row_4 : decode c_La_row 4 = .ok (.iload_n 2, 1) := by decide +kernel
theorem d_La_row_5 : decode c_La_row 5 = .ok (.invokevirtual 47, 3) := by decide +kernel
theorem d_La_row_8 : decode c_La_row 8 = .ok (.i2l, 1) := by decide +kernel
theorem d_La_row_9 : decode c_La_row 9 = .ok (.lastore, 1) := by decide +kernel
theorem d_La_row_10 : decode c_La_row 10 = .ok (.goto 11, 3) := by decide +kernel
theorem d_La_row_13 : decode c_La_row 13 = .ok (.astore 4, 2) := by decide +kernel
theorem d_La_row_15 : decode c_La_row 15 = .ok (.iconst 1, 1) := by decide +kernel
theorem d_La_row_16 : decode c_La_row 16 = .ok (.ireturn, 1) := by decide +kernel
theorem d_La_row_17 : decode c_La_row 17 = .ok (.astore 4, 2) := by decide +kernel
theorem d_La_row_19 : decode c_La_row 19 = .ok (.iconst 2, 1) := by decide +kernel
theorem d_La_row_20 : decode c_La_row 20 = .ok (.ireturn, 1) := by decide +kernel
theorem d_La_row_21 : decode c_La_row 21 = .ok (.iconst 0, 1) := by decide +kernel
theorem d_La_row_22 : decode c_La_row 22 = .ok (.ireturn, 1) := by decide +kernel
theorem d_La_lessens_0 : decode c_La_lessens 0 = .ok (.aload_n 2, 1) := by decide +kernel
theorem d_La_lessens_1 : decode c_La_lessens 1 = .ok (.iconst 0, 1) := by decide +kernel
theorem d_La_lessens_2 : decode c_La_lessens 2 = .ok (.aload_n 0, 1) := by decide +kernel
theorem d_La_lessens_3 : decode c_La_lessens 3 = .ok (.iload_n 1, 1) := by decide +kernel
theorem d_La_lessens_4 : decode c_La_lessens 4 = .ok (.invokevirtual 50, 3) := by decide +kernel
theorem d_La_lessens_7 : decode c_La_lessens 7 = .ok (.ifCond .eq 7, 3) := by decide +kernel
theorem d_La_lessens_10 : decode c_La_lessens 10 = .ok (.lconst 1, 1) := by decide +kernel
theorem d_La_lessens_11 : decode c_La_lessens 11 = .ok (.goto 4, 3) := by decide +kernel
theorem d_La_lessens_14 : decode c_La_lessens 14 = .ok (.lconst 0, 1) := by decide +kernel
theorem d_La_lessens_15 : decode c_La_lessens 15 = .ok (.lastore, 1) := by decide +kernel
theorem d_La_lessens_16 : decode c_La_lessens 16 = .ok (.goto 6, 3) := by decide +kernel
theorem d_La_lessens_19 : decode c_La_lessens 19 = .ok (.astore_n 3, 1) := by decide +kernel
theorem d_La_lessens_20 : decode c_La_lessens 20 = .ok (.iconst 1, 1) := by decide +kernel
theorem d_La_lessens_21 : decode c_La_lessens 21 = .ok (.ireturn, 1) := by decide +kernel
theorem d_La_lessens_22 : decode c_La_lessens 22 = .ok (.iconst 0, 1) := by decide +kernel
theorem d_La_lessens_23 : decode c_La_lessens 23 = .ok (.ireturn, 1) := by decide +kernel
theorem d_La_usable_0 : decode c_La_usable 0 = .ok (.aload_n 2, 1) := by decide +kernel
theorem d_La_usable_1 : decode c_La_usable 1 = .ok (.iconst 0, 1) := by decide +kernel
theorem d_La_usable_2 : decode c_La_usable 2 = .ok (.aload_n 0, 1) := by decide +kernel
theorem d_La_usable_3 : decode c_La_usable 3 = .ok (.iload_n 1, 1) := by decide +kernel
theorem d_La_usable_4 : decode c_La_usable 4 = .ok (.invokevirtual 54, 3) := by decide +kernel
theorem d_La_usable_7 : decode c_La_usable 7 = .ok (.ifCond .eq 7, 3) := by decide +kernel
theorem d_La_usable_10 : decode c_La_usable 10 = .ok (.lconst 1, 1) := by decide +kernel
theorem d_La_usable_11 : decode c_La_usable 11 = .ok (.goto 4, 3) := by decide +kernel
theorem d_La_usable_14 : decode c_La_usable 14 = .ok (.lconst 0, 1) := by decide +kernel
theorem d_La_usable_15 : decode c_La_usable 15 = .ok (.lastore, 1) := by decide +kernel
theorem d_La_usable_16 : decode c_La_usable 16 = .ok (.goto 6, 3) := by decide +kernel
theorem d_La_usable_19 : decode c_La_usable 19 = .ok (.astore_n 3, 1) := by decide +kernel
theorem d_La_usable_20 : decode c_La_usable 20 = .ok (.iconst 1, 1) := by decide +kernel
theorem d_La_usable_21 : decode c_La_usable 21 = .ok (.ireturn, 1) := by decide +kernel
theorem d_La_usable_22 : decode c_La_usable 22 = .ok (.iconst 0, 1) := by decide +kernel
theorem d_La_usable_23 : decode c_La_usable 23 = .ok (.ireturn, 1) := by decide +kernel
theorem d_La_above_0 : decode c_La_above 0 = .ok (.aload_n 3, 1) := by decide +kernel
theorem d_La_above_1 : decode c_La_above 1 = .ok (.iconst 0, 1) := by decide +kernel
theorem d_La_above_2 : decode c_La_above 2 = .ok (.aload_n 0, 1) := by decide +kernel
theorem d_La_above_3 : decode c_La_above 3 = .ok (.iload_n 1, 1) := by decide +kernel
theorem d_La_above_4 : decode c_La_above 4 = .ok (.iload_n 2, 1) := by decide +kernel
theorem d_La_above_5 : decode c_La_above 5 = .ok (.invokevirtual 57, 3) := by decide +kernel
theorem d_La_above_8 : decode c_La_above 8 = .ok (.ifCond .eq 7, 3) := by decide +kernel
theorem d_La_above_11 : decode c_La_above 11 = .ok (.lconst 1, 1) := by decide +kernel
theorem d_La_above_12 : decode c_La_above 12 = .ok (.goto 4, 3) := by decide +kernel
theorem d_La_above_15 : decode c_La_above 15 = .ok (.lconst 0, 1) := by decide +kernel
theorem d_La_above_16 : decode c_La_above 16 = .ok (.lastore, 1) := by decide +kernel
theorem d_La_above_17 : decode c_La_above 17 = .ok (.goto 7, 3) := by decide +kernel
theorem d_La_above_20 : decode c_La_above 20 = .ok (.astore 4, 2) := by decide +kernel
theorem d_La_above_22 : decode c_La_above 22 = .ok (.iconst 1, 1) := by decide +kernel
theorem d_La_above_23 : decode c_La_above 23 = .ok (.ireturn, 1) := by decide +kernel
theorem d_La_above_24 : decode c_La_above 24 = .ok (.iconst 0, 1) := by decide +kernel
theorem d_La_above_25 : decode c_La_above 25 = .ok (.ireturn, 1) := by decide +kernel
theorem d_La_measure_0 : decode c_La_measure 0 = .ok (.aload_n 3, 1) := by decide +kernel
theorem d_La_measure_1 : decode c_La_measure 1 = .ok (.iconst 0, 1) := by decide +kernel
theorem d_La_measure_2 : decode c_La_measure 2 = .ok (.aload_n 0, 1) := by decide +kernel
theorem d_La_measure_3 : decode c_La_measure 3 = .ok (.iload_n 1, 1) := by decide +kernel
theorem d_La_measure_4 : decode c_La_measure 4 = .ok (.iload_n 2, 1) := by decide +kernel
theorem d_La_measure_5 : decode c_La_measure 5 = .ok (.invokevirtual 60, 3) := by decide +kernel
theorem d_La_measure_8 : decode c_La_measure 8 = .ok (.i2l, 1) := by decide +kernel
theorem d_La_measure_9 : decode c_La_measure 9 = .ok (.lastore, 1) := by decide +kernel
theorem d_La_measure_10 : decode c_La_measure 10 = .ok (.goto 11, 3) := by decide +kernel
theorem d_La_measure_13 : decode c_La_measure 13 = .ok (.astore 4, 2) := by decide +kernel
theorem d_La_measure_15 : decode c_La_measure 15 = .ok (.iconst 1, 1) := by decide +kernel
theorem d_La_measure_16 : decode c_La_measure 16 = .ok (.ireturn, 1) := by decide +kernel
theorem d_La_measure_17 : decode c_La_measure 17 = .ok (.astore 4, 2) := by decide +kernel
theorem d_La_measure_19 : decode c_La_measure 19 = .ok (.iconst 2, 1) := by decide +kernel
theorem d_La_measure_20 : decode c_La_measure 20 = .ok (.ireturn, 1) := by decide +kernel
theorem d_La_measure_21 : decode c_La_measure 21 = .ok (.iconst 0, 1) := by decide +kernel
theorem d_La_measure_22 : decode c_La_measure 22 = .ok (.ireturn, 1) := by decide +kernel
theorem d_La_at_0 : decode c_La_at 0 = .ok (.aload_n 3, 1) := by decide +kernel
theorem d_La_at_1 : decode c_La_at 1 = .ok (.iconst 0, 1) := by decide +kernel
theorem d_La_at_2 : decode c_La_at 2 = .ok (.aload_n 0, 1) := by decide +kernel
theorem d_La_at_3 : decode c_La_at 3 = .ok (.iload_n 1, 1) := by decide +kernel
theorem d_La_at_4 : decode c_La_at 4 = .ok (.iload_n 2, 1) := by decide +kernel
theorem d_La_at_5 : decode c_La_at 5 = .ok (.invokevirtual 63, 3) := by decide +kernel
theorem d_La_at_8 : decode c_La_at 8 = .ok (.i2l, 1) := by decide +kernel
theorem d_La_at_9 : decode c_La_at 9 = .ok (.lastore, 1) := by decide +kernel
theorem d_La_at_10 : decode c_La_at 10 = .ok (.goto 7, 3) := by decide +kernel
theorem d_La_at_13 : decode c_La_at 13 = .ok (.astore 4, 2) := by decide +kernel
theorem d_La_at_15 : decode c_La_at 15 = .ok (.iconst 1, 1) := by decide +kernel
theorem d_La_at_16 : decode c_La_at 16 = .ok (.ireturn, 1) := by decide +kernel
theorem d_La_at_17 : decode c_La_at 17 = .ok (.iconst 0, 1) := by decide +kernel
theorem d_La_at_18 : decode c_La_at 18 = .ok (.ireturn, 1) := by decide +kernel
theorem d_La_head_0 : decode c_La_head 0 = .ok (.aload_n 2, 1) := by decide +kernel
theorem d_La_head_1 : decode c_La_head 1 = .ok (.iconst 0, 1) := by decide +kernel
theorem d_La_head_2 : decode c_La_head 2 = .ok (.aload_n 0, 1) := by decide +kernel
theorem d_La_head_3 : decode c_La_head 3 = .ok (.iload_n 1, 1) := by decide +kernel
theorem d_La_head_4 : decode c_La_head 4 = .ok (.invokevirtual 66, 3) := by decide +kernel
theorem d_La_head_7 : decode c_La_head 7 = .ok (.i2l, 1) := by decide +kernel
theorem d_La_head_8 : decode c_La_head 8 = .ok (.lastore, 1) := by decide +kernel
theorem d_La_head_9 : decode c_La_head 9 = .ok (.goto 6, 3) := by decide +kernel
theorem d_La_head_12 : decode c_La_head 12 = .ok (.astore_n 3, 1) := by decide +kernel
theorem d_La_head_13 : decode c_La_head 13 = .ok (.iconst 1, 1) := by decide +kernel
theorem d_La_head_14 : decode c_La_head 14 = .ok (.ireturn, 1) := by decide +kernel
theorem d_La_head_15 : decode c_La_head 15 = .ok (.iconst 0, 1) := by decide +kernel
theorem d_La_head_16 : decode c_La_head 16 = .ok (.ireturn, 1) := by decide +kernel
theorem d_La_law_0 : decode c_La_law 0 = .ok (.new 8, 3) := by decide +kernel
theorem d_La_law_3 : decode c_La_law 3 = .ok (.dup, 1) := by decide +kernel
theorem d_La_law_4 : decode c_La_law 4 = .ok (.invokespecial 69, 3) := by decide +kernel
theorem d_La_law_7 : decode c_La_law 7 = .ok (.astore_n 1, 1) := by decide +kernel
theorem d_La_law_8 : decode c_La_law 8 = .ok (.new 70, 3) := by decide +kernel
theorem d_La_law_11 : decode c_La_law 11 = .ok (.dup, 1) := by decide +kernel
theorem d_La_law_12 : decode c_La_law 12 = .ok (.invokespecial 72, 3) := by decide +kernel
theorem d_La_law_15 : decode c_La_law 15 = .ok (.astore_n 2, 1) := by decide +kernel
theorem d_La_law_16 : decode c_La_law 16 = .ok (.iconst 1, 1) := by decide +kernel
theorem d_La_law_17 : decode c_La_law 17 = .ok (.newarray .long, 2) := by decide +kernel
theorem d_La_law_19 : decode c_La_law 19 = .ok (.astore_n 3, 1) := by decide +kernel
theorem d_La_law_20 : decode c_La_law 20 = .ok (.iconst 0, 1) := by decide +kernel
theorem d_La_law_21 : decode c_La_law 21 = .ok (.istore 4, 2) := by decide +kernel
theorem d_La_law_23 : decode c_La_law 23 = .ok (.iload 4, 2) := by decide +kernel
theorem d_La_law_25 : decode c_La_law 25 = .ok (.aload_n 0, 1) := by decide +kernel
theorem d_La_law_26 : decode c_La_law 26 = .ok (.arraylength, 1) := by decide +kernel
theorem d_La_law_27 : decode c_La_law 27 = .ok (.iconst 4, 1) := by decide +kernel
theorem d_La_law_28 : decode c_La_law 28 = .ok (.isub, 1) := by decide +kernel
theorem d_La_law_29 : decode c_La_law 29 = .ok (.if_icmp .gt 1271, 3) := by decide +kernel
theorem d_La_law_32 : decode c_La_law 32 = .ok (.aload_n 0, 1) := by decide +kernel
theorem d_La_law_33 : decode c_La_law 33 = .ok (.iload 4, 2) := by decide +kernel
theorem d_La_law_35 : decode c_La_law 35 = .ok (.iaload, 1) := by decide +kernel
theorem d_La_law_36 : decode c_La_law 36 = .ok (.bipush 31, 2) := by decide +kernel
theorem d_La_law_38 : decode c_La_law 38 = .ok (.iand, 1) := by decide +kernel
theorem d_La_law_39 : decode c_La_law 39 = .ok (.tableswitch 1255 0 19 #[93, 149, 205, 285, 365, 440, 531, 599, 655, 730, 743, 811, 824, 837, 900, 963, 1038, 1106, 1174, 1230], 93) := by decide +kernel
theorem d_La_law_132 : decode c_La_law 132 = .ok (.aload_n 1, 1) := by decide +kernel
theorem d_La_law_133 : decode c_La_law 133 = .ok (.aload_n 0, 1) := by decide +kernel
theorem d_La_law_134 : decode c_La_law 134 = .ok (.iload 4, 2) := by decide +kernel
theorem d_La_law_136 : decode c_La_law 136 = .ok (.iconst 1, 1) := by decide +kernel
theorem d_La_law_137 : decode c_La_law 137 = .ok (.iadd, 1) := by decide +kernel
theorem d_La_law_138 : decode c_La_law 138 = .ok (.iaload, 1) := by decide +kernel
theorem d_La_law_139 : decode c_La_law 139 = .ok (.aload_n 3, 1) := by decide +kernel
theorem d_La_law_140 : decode c_La_law 140 = .ok (.invokestatic 73, 3) := by decide +kernel
theorem d_La_law_143 : decode c_La_law 143 = .ok (.istore 5, 2) := by decide +kernel
theorem d_La_law_145 : decode c_La_law 145 = .ok (.aload_n 2, 1) := by decide +kernel
theorem d_La_law_146 : decode c_La_law 146 = .ok (.aload_n 0, 1) := by decide +kernel
theorem d_La_law_147 : decode c_La_law 147 = .ok (.iload 4, 2) := by decide +kernel
theorem d_La_law_149 : decode c_La_law 149 = .ok (.iconst 1, 1) := by decide +kernel
theorem d_La_law_150 : decode c_La_law 150 = .ok (.iadd, 1) := by decide +kernel
theorem d_La_law_151 : decode c_La_law 151 = .ok (.iaload, 1) := by decide +kernel
theorem d_La_law_152 : decode c_La_law 152 = .ok (.invokevirtual 78, 3) := by decide +kernel
theorem d_La_law_155 : decode c_La_law 155 = .ok (.istore 6, 2) := by decide +kernel
theorem d_La_law_157 : decode c_La_law 157 = .ok (.aload_n 2, 1) := by decide +kernel
theorem d_La_law_158 : decode c_La_law 158 = .ok (.invokevirtual 79, 3) := by decide +kernel
theorem d_La_law_161 : decode c_La_law 161 = .ok (.iload 5, 2) := by decide +kernel
theorem d_La_law_163 : decode c_La_law 163 = .ok (.if_icmp .eq 5, 3) := by decide +kernel
theorem d_La_law_166 : decode c_La_law 166 = .ok (.iconst 0, 1) := by decide +kernel
theorem d_La_law_167 : decode c_La_law 167 = .ok (.ireturn, 1) := by decide +kernel
theorem d_La_law_168 : decode c_La_law 168 = .ok (.iload 5, 2) := by decide +kernel
theorem d_La_law_170 : decode c_La_law 170 = .ok (.ifCond .ne 15, 3) := by decide +kernel
theorem d_La_law_173 : decode c_La_law 173 = .ok (.aload_n 3, 1) := by decide +kernel
theorem d_La_law_174 : decode c_La_law 174 = .ok (.iconst 0, 1) := by decide +kernel
theorem d_La_law_175 : decode c_La_law 175 = .ok (.laload, 1) := by decide +kernel
theorem d_La_law_176 : decode c_La_law 176 = .ok (.iload 6, 2) := by decide +kernel
theorem d_La_law_178 : decode c_La_law 178 = .ok (.i2l, 1) := by decide +kernel
theorem d_La_law_179 : decode c_La_law 179 = .ok (.lcmp, 1) := by decide +kernel
theorem d_La_law_180 : decode c_La_law 180 = .ok (.ifCond .eq 5, 3) := by decide +kernel
theorem d_La_law_183 : decode c_La_law 183 = .ok (.iconst 0, 1) := by decide +kernel
theorem d_La_law_184 : decode c_La_law 184 = .ok (.ireturn, 1) := by decide +kernel
theorem d_La_law_185 : decode c_La_law 185 = .ok (.goto 1109, 3) := by decide +kernel
theorem d_La_law_188 : decode c_La_law 188 = .ok (.aload_n 1, 1) := by decide +kernel
theorem d_La_law_189 : decode c_La_law 189 = .ok (.aload_n 0, 1) := by decide +kernel
theorem d_La_law_190 : decode c_La_law 190 = .ok (.iload 4, 2) := by decide +kernel
theorem d_La_law_192 : decode c_La_law 192 = .ok (.iconst 1, 1) := by decide +kernel
theorem d_La_law_193 : decode c_La_law 193 = .ok (.iadd, 1) := by decide +kernel
theorem d_La_law_194 : decode c_La_law 194 = .ok (.iaload, 1) := by decide +kernel
theorem d_La_law_195 : decode c_La_law 195 = .ok (.aload_n 3, 1) := by decide +kernel
theorem d_La_law_196 : decode c_La_law 196 = .ok (.invokestatic 83, 3) := by decide +kernel
theorem d_La_law_199 : decode c_La_law 199 = .ok (.istore 5, 2) := by decide +kernel
theorem d_La_law_201 : decode c_La_law 201 = .ok (.aload_n 2, 1) := by decide +kernel
theorem d_La_law_202 : decode c_La_law 202 = .ok (.aload_n 0, 1) := by decide +kernel
theorem d_La_law_203 : decode c_La_law 203 = .ok (.iload 4, 2) := by decide +kernel
theorem d_La_law_205 : decode c_La_law 205 = .ok (.iconst 1, 1) := by decide +kernel
theorem d_La_law_206 : decode c_La_law 206 = .ok (.iadd, 1) := by decide +kernel
theorem d_La_law_207 : decode c_La_law 207 = .ok (.iaload, 1) := by decide +kernel
theorem d_La_law_208 : decode c_La_law 208 = .ok (.invokevirtual 85, 3) := by decide +kernel
theorem d_La_law_211 : decode c_La_law 211 = .ok (.istore 6, 2) := by decide +kernel
theorem d_La_law_213 : decode c_La_law 213 = .ok (.aload_n 2, 1) := by decide +kernel
theorem d_La_law_214 : decode c_La_law 214 = .ok (.invokevirtual 79, 3) := by decide +kernel
theorem d_La_law_217 : decode c_La_law 217 = .ok (.iload 5, 2) := by decide +kernel
theorem d_La_law_219 : decode c_La_law 219 = .ok (.if_icmp .eq 5, 3) := by decide +kernel
theorem d_La_law_222 : decode c_La_law 222 = .ok (.iconst 0, 1) := by decide +kernel
theorem d_La_law_223 : decode c_La_law 223 = .ok (.ireturn, 1) := by decide +kernel
theorem d_La_law_224 : decode c_La_law 224 = .ok (.iload 5, 2) := by decide +kernel
theorem d_La_law_226 : decode c_La_law 226 = .ok (.ifCond .ne 15, 3) := by decide +kernel
theorem d_La_law_229 : decode c_La_law 229 = .ok (.aload_n 3, 1) := by decide +kernel
theorem d_La_law_230 : decode c_La_law 230 = .ok (.iconst 0, 1) := by decide +kernel
theorem d_La_law_231 : decode c_La_law 231 = .ok (.laload, 1) := by decide +kernel
theorem d_La_law_232 : decode c_La_law 232 = .ok (.iload 6, 2) := by decide +kernel
theorem d_La_law_234 : decode c_La_law 234 = .ok (.i2l, 1) := by decide +kernel
theorem d_La_law_235 : decode c_La_law 235 = .ok (.lcmp, 1) := by decide +kernel
theorem d_La_law_236 : decode c_La_law 236 = .ok (.ifCond .eq 5, 3) := by decide +kernel
theorem d_La_law_239 : decode c_La_law 239 = .ok (.iconst 0, 1) := by decide +kernel
theorem d_La_law_240 : decode c_La_law 240 = .ok (.ireturn, 1) := by decide +kernel
theorem d_La_law_241 : decode c_La_law 241 = .ok (.goto 1053, 3) := by decide +kernel
theorem d_La_law_244 : decode c_La_law 244 = .ok (.aload_n 1, 1) := by decide +kernel
theorem d_La_law_245 : decode c_La_law 245 = .ok (.aload_n 0, 1) := by decide +kernel
theorem d_La_law_246 : decode c_La_law 246 = .ok (.iload 4, 2) := by decide +kernel
theorem d_La_law_248 : decode c_La_law 248 = .ok (.iconst 1, 1) := by decide +kernel
theorem d_La_law_249 : decode c_La_law 249 = .ok (.iadd, 1) := by decide +kernel
theorem d_La_law_250 : decode c_La_law 250 = .ok (.iaload, 1) := by decide +kernel
theorem d_La_law_251 : decode c_La_law 251 = .ok (.aload_n 0, 1) := by decide +kernel
theorem d_La_law_252 : decode c_La_law 252 = .ok (.iload 4, 2) := by decide +kernel
theorem d_La_law_254 : decode c_La_law 254 = .ok (.iconst 2, 1) := by decide +kernel
theorem d_La_law_255 : decode c_La_law 255 = .ok (.iadd, 1) := by decide +kernel
theorem d_La_law_256 : decode c_La_law 256 = .ok (.iaload, 1) := by decide +kernel
theorem d_La_law_257 : decode c_La_law 257 = .ok (.aload_n 0, 1) := by decide +kernel
theorem d_La_law_258 : decode c_La_law 258 = .ok (.iload 4, 2) := by decide +kernel
theorem d_La_law_260 : decode c_La_law 260 = .ok (.iconst 3, 1) := by decide +kernel
theorem d_La_law_261 : decode c_La_law 261 = .ok (.iadd, 1) := by decide +kernel
theorem d_La_law_262 : decode c_La_law 262 = .ok (.iaload, 1) := by decide +kernel
theorem d_La_law_263 : decode c_La_law 263 = .ok (.aload_n 3, 1) := by decide +kernel
theorem d_La_law_264 : decode c_La_law 264 = .ok (.invokestatic 86, 3) := by decide +kernel
theorem d_La_law_267 : decode c_La_law 267 = .ok (.istore 5, 2) := by decide +kernel
theorem d_La_law_269 : decode c_La_law 269 = .ok (.aload_n 2, 1) := by decide +kernel
theorem d_La_law_270 : decode c_La_law 270 = .ok (.aload_n 0, 1) := by decide +kernel
theorem d_La_law_271 : decode c_La_law 271 = .ok (.iload 4, 2) := by decide +kernel
theorem d_La_law_273 : decode c_La_law 273 = .ok (.iconst 1, 1) := by decide +kernel
theorem d_La_law_274 : decode c_La_law 274 = .ok (.iadd, 1) := by decide +kernel
theorem d_La_law_275 : decode c_La_law 275 = .ok (.iaload, 1) := by decide +kernel
theorem d_La_law_276 : decode c_La_law 276 = .ok (.aload_n 0, 1) := by decide +kernel
theorem d_La_law_277 : decode c_La_law 277 = .ok (.iload 4, 2) := by decide +kernel
theorem d_La_law_279 : decode c_La_law 279 = .ok (.iconst 2, 1) := by decide +kernel
theorem d_La_law_280 : decode c_La_law 280 = .ok (.iadd, 1) := by decide +kernel
theorem d_La_law_281 : decode c_La_law 281 = .ok (.iaload, 1) := by decide +kernel
theorem d_La_law_282 : decode c_La_law 282 = .ok (.aload_n 0, 1) := by decide +kernel
theorem d_La_law_283 : decode c_La_law 283 = .ok (.iload 4, 2) := by decide +kernel
theorem d_La_law_285 : decode c_La_law 285 = .ok (.iconst 3, 1) := by decide +kernel
theorem d_La_law_286 : decode c_La_law 286 = .ok (.iadd, 1) := by decide +kernel
theorem d_La_law_287 : decode c_La_law 287 = .ok (.iaload, 1) := by decide +kernel
theorem d_La_law_288 : decode c_La_law 288 = .ok (.invokevirtual 89, 3) := by decide +kernel
theorem d_La_law_291 : decode c_La_law 291 = .ok (.istore 6, 2) := by decide +kernel
theorem d_La_law_293 : decode c_La_law 293 = .ok (.aload_n 2, 1) := by decide +kernel
theorem d_La_law_294 : decode c_La_law 294 = .ok (.invokevirtual 79, 3) := by decide +kernel
theorem d_La_law_297 : decode c_La_law 297 = .ok (.iload 5, 2) := by decide +kernel
theorem d_La_law_299 : decode c_La_law 299 = .ok (.if_icmp .eq 5, 3) := by decide +kernel
theorem d_La_law_302 : decode c_La_law 302 = .ok (.iconst 0, 1) := by decide +kernel
theorem d_La_law_303 : decode c_La_law 303 = .ok (.ireturn, 1) := by decide +kernel
theorem d_La_law_304 : decode c_La_law 304 = .ok (.iload 5, 2) := by decide +kernel
theorem d_La_law_306 : decode c_La_law 306 = .ok (.ifCond .ne 15, 3) := by decide +kernel
theorem d_La_law_309 : decode c_La_law 309 = .ok (.aload_n 3, 1) := by decide +kernel
theorem d_La_law_310 : decode c_La_law 310 = .ok (.iconst 0, 1) := by decide +kernel
theorem d_La_law_311 : decode c_La_law 311 = .ok (.laload, 1) := by decide +kernel
theorem d_La_law_312 : decode c_La_law 312 = .ok (.iload 6, 2) := by decide +kernel
theorem d_La_law_314 : decode c_La_law 314 = .ok (.i2l, 1) := by decide +kernel
theorem d_La_law_315 : decode c_La_law 315 = .ok (.lcmp, 1) := by decide +kernel
theorem d_La_law_316 : decode c_La_law 316 = .ok (.ifCond .eq 5, 3) := by decide +kernel
theorem d_La_law_319 : decode c_La_law 319 = .ok (.iconst 0, 1) := by decide +kernel
theorem d_La_law_320 : decode c_La_law 320 = .ok (.ireturn, 1) := by decide +kernel
theorem d_La_law_321 : decode c_La_law 321 = .ok (.goto 973, 3) := by decide +kernel
theorem d_La_law_324 : decode c_La_law 324 = .ok (.aload_n 1, 1) := by decide +kernel
theorem d_La_law_325 : decode c_La_law 325 = .ok (.aload_n 0, 1) := by decide +kernel
theorem d_La_law_326 : decode c_La_law 326 = .ok (.iload 4, 2) := by decide +kernel
theorem d_La_law_328 : decode c_La_law 328 = .ok (.iconst 1, 1) := by decide +kernel
theorem d_La_law_329 : decode c_La_law 329 = .ok (.iadd, 1) := by decide +kernel
theorem d_La_law_330 : decode c_La_law 330 = .ok (.iaload, 1) := by decide +kernel
theorem d_La_law_331 : decode c_La_law 331 = .ok (.aload_n 0, 1) := by decide +kernel
theorem d_La_law_332 : decode c_La_law 332 = .ok (.iload 4, 2) := by decide +kernel
theorem d_La_law_334 : decode c_La_law 334 = .ok (.iconst 2, 1) := by decide +kernel
theorem d_La_law_335 : decode c_La_law 335 = .ok (.iadd, 1) := by decide +kernel
theorem d_La_law_336 : decode c_La_law 336 = .ok (.iaload, 1) := by decide +kernel
theorem d_La_law_337 : decode c_La_law 337 = .ok (.aload_n 0, 1) := by decide +kernel
theorem d_La_law_338 : decode c_La_law 338 = .ok (.iload 4, 2) := by decide +kernel
theorem d_La_law_340 : decode c_La_law 340 = .ok (.iconst 3, 1) := by decide +kernel
theorem d_La_law_341 : decode c_La_law 341 = .ok (.iadd, 1) := by decide +kernel
theorem d_La_law_342 : decode c_La_law 342 = .ok (.iaload, 1) := by decide +kernel
theorem d_La_law_343 : decode c_La_law 343 = .ok (.aload_n 3, 1) := by decide +kernel
theorem d_La_law_344 : decode c_La_law 344 = .ok (.invokestatic 90, 3) := by decide +kernel
theorem d_La_law_347 : decode c_La_law 347 = .ok (.istore 5, 2) := by decide +kernel
theorem d_La_law_349 : decode c_La_law 349 = .ok (.aload_n 2, 1) := by decide +kernel
theorem d_La_law_350 : decode c_La_law 350 = .ok (.aload_n 0, 1) := by decide +kernel
theorem d_La_law_351 : decode c_La_law 351 = .ok (.iload 4, 2) := by decide +kernel
theorem d_La_law_353 : decode c_La_law 353 = .ok (.iconst 1, 1) := by decide +kernel
theorem d_La_law_354 : decode c_La_law 354 = .ok (.iadd, 1) := by decide +kernel
theorem d_La_law_355 : decode c_La_law 355 = .ok (.iaload, 1) := by decide +kernel
theorem d_La_law_356 : decode c_La_law 356 = .ok (.aload_n 0, 1) := by decide +kernel
theorem d_La_law_357 : decode c_La_law 357 = .ok (.iload 4, 2) := by decide +kernel
theorem d_La_law_359 : decode c_La_law 359 = .ok (.iconst 2, 1) := by decide +kernel
theorem d_La_law_360 : decode c_La_law 360 = .ok (.iadd, 1) := by decide +kernel
theorem d_La_law_361 : decode c_La_law 361 = .ok (.iaload, 1) := by decide +kernel
theorem d_La_law_362 : decode c_La_law 362 = .ok (.aload_n 0, 1) := by decide +kernel
theorem d_La_law_363 : decode c_La_law 363 = .ok (.iload 4, 2) := by decide +kernel
theorem d_La_law_365 : decode c_La_law 365 = .ok (.iconst 3, 1) := by decide +kernel
theorem d_La_law_366 : decode c_La_law 366 = .ok (.iadd, 1) := by decide +kernel
theorem d_La_law_367 : decode c_La_law 367 = .ok (.iaload, 1) := by decide +kernel
theorem d_La_law_368 : decode c_La_law 368 = .ok (.invokevirtual 92, 3) := by decide +kernel
theorem d_La_law_371 : decode c_La_law 371 = .ok (.istore 6, 2) := by decide +kernel
theorem d_La_law_373 : decode c_La_law 373 = .ok (.aload_n 2, 1) := by decide +kernel
theorem d_La_law_374 : decode c_La_law 374 = .ok (.invokevirtual 79, 3) := by decide +kernel
theorem d_La_law_377 : decode c_La_law 377 = .ok (.iload 5, 2) := by decide +kernel
theorem d_La_law_379 : decode c_La_law 379 = .ok (.if_icmp .eq 5, 3) := by decide +kernel
theorem d_La_law_382 : decode c_La_law 382 = .ok (.iconst 0, 1) := by decide +kernel
theorem d_La_law_383 : decode c_La_law 383 = .ok (.ireturn, 1) := by decide +kernel
theorem d_La_law_384 : decode c_La_law 384 = .ok (.iload 5, 2) := by decide +kernel
theorem d_La_law_386 : decode c_La_law 386 = .ok (.ifCond .ne 15, 3) := by decide +kernel
theorem d_La_law_389 : decode c_La_law 389 = .ok (.aload_n 3, 1) := by decide +kernel
theorem d_La_law_390 : decode c_La_law 390 = .ok (.iconst 0, 1) := by decide +kernel
theorem d_La_law_391 : decode c_La_law 391 = .ok (.laload, 1) := by decide +kernel
theorem d_La_law_392 : decode c_La_law 392 = .ok (.iload 6, 2) := by decide +kernel
theorem d_La_law_394 : decode c_La_law 394 = .ok (.i2l, 1) := by decide +kernel
theorem d_La_law_395 : decode c_La_law 395 = .ok (.lcmp, 1) := by decide +kernel
theorem d_La_law_396 : decode c_La_law 396 = .ok (.ifCond .eq 5, 3) := by decide +kernel
theorem d_La_law_399 : decode c_La_law 399 = .ok (.iconst 0, 1) := by decide +kernel
theorem d_La_law_400 : decode c_La_law 400 = .ok (.ireturn, 1) := by decide +kernel
theorem d_La_law_401 : decode c_La_law 401 = .ok (.goto 893, 3) := by decide +kernel
theorem d_La_law_404 : decode c_La_law 404 = .ok (.aload_n 1, 1) := by decide +kernel
theorem d_La_law_405 : decode c_La_law 405 = .ok (.aload_n 0, 1) := by decide +kernel
theorem d_La_law_406 : decode c_La_law 406 = .ok (.iload 4, 2) := by decide +kernel
theorem d_La_law_408 : decode c_La_law 408 = .ok (.iconst 1, 1) := by decide +kernel
theorem d_La_law_409 : decode c_La_law 409 = .ok (.iadd, 1) := by decide +kernel
theorem d_La_law_410 : decode c_La_law 410 = .ok (.iaload, 1) := by decide +kernel
theorem d_La_law_411 : decode c_La_law 411 = .ok (.aload_n 0, 1) := by decide +kernel
theorem d_La_law_412 : decode c_La_law 412 = .ok (.iload 4, 2) := by decide +kernel
theorem d_La_law_414 : decode c_La_law 414 = .ok (.iconst 2, 1) := by decide +kernel
theorem d_La_law_415 : decode c_La_law 415 = .ok (.iadd, 1) := by decide +kernel
theorem d_La_law_416 : decode c_La_law 416 = .ok (.iaload, 1) := by decide +kernel
theorem d_La_law_417 : decode c_La_law 417 = .ok (.aload_n 3, 1) := by decide +kernel
theorem d_La_law_418 : decode c_La_law 418 = .ok (.invokestatic 93, 3) := by decide +kernel
theorem d_La_law_421 : decode c_La_law 421 = .ok (.istore 5, 2) := by decide +kernel
theorem d_La_law_423 : decode c_La_law 423 = .ok (.aload_n 2, 1) := by decide +kernel
theorem d_La_law_424 : decode c_La_law 424 = .ok (.aload_n 0, 1) := by decide +kernel
theorem d_La_law_425 : decode c_La_law 425 = .ok (.iload 4, 2) := by decide +kernel
theorem d_La_law_427 : decode c_La_law 427 = .ok (.iconst 1, 1) := by decide +kernel
theorem d_La_law_428 : decode c_La_law 428 = .ok (.iadd, 1) := by decide +kernel
theorem d_La_law_429 : decode c_La_law 429 = .ok (.iaload, 1) := by decide +kernel
theorem d_La_law_430 : decode c_La_law 430 = .ok (.aload_n 0, 1) := by decide +kernel
theorem d_La_law_431 : decode c_La_law 431 = .ok (.iload 4, 2) := by decide +kernel
theorem d_La_law_433 : decode c_La_law 433 = .ok (.iconst 2, 1) := by decide +kernel
theorem d_La_law_434 : decode c_La_law 434 = .ok (.iadd, 1) := by decide +kernel
theorem d_La_law_435 : decode c_La_law 435 = .ok (.iaload, 1) := by decide +kernel
theorem d_La_law_436 : decode c_La_law 436 = .ok (.invokevirtual 96, 3) := by decide +kernel
theorem d_La_law_439 : decode c_La_law 439 = .ok (.istore 6, 2) := by decide +kernel
theorem d_La_law_441 : decode c_La_law 441 = .ok (.aload_n 2, 1) := by decide +kernel
theorem d_La_law_442 : decode c_La_law 442 = .ok (.invokevirtual 79, 3) := by decide +kernel
theorem d_La_law_445 : decode c_La_law 445 = .ok (.iload 5, 2) := by decide +kernel
theorem d_La_law_447 : decode c_La_law 447 = .ok (.if_icmp .eq 5, 3) := by decide +kernel
theorem d_La_law_450 : decode c_La_law 450 = .ok (.iconst 0, 1) := by decide +kernel
theorem d_La_law_451 : decode c_La_law 451 = .ok (.ireturn, 1) := by decide +kernel
theorem d_La_law_452 : decode c_La_law 452 = .ok (.iload 5, 2) := by decide +kernel
theorem d_La_law_454 : decode c_La_law 454 = .ok (.ifCond .ne 22, 3) := by decide +kernel
theorem d_La_law_457 : decode c_La_law 457 = .ok (.aload_n 3, 1) := by decide +kernel
theorem d_La_law_458 : decode c_La_law 458 = .ok (.iconst 0, 1) := by decide +kernel
theorem d_La_law_459 : decode c_La_law 459 = .ok (.laload, 1) := by decide +kernel
theorem d_La_law_460 : decode c_La_law 460 = .ok (.iload 6, 2) := by decide +kernel
theorem d_La_law_462 : decode c_La_law 462 = .ok (.ifCond .eq 7, 3) := by decide +kernel
theorem d_La_law_465 : decode c_La_law 465 = .ok (.lconst 1, 1) := by decide +kernel
theorem d_La_law_466 : decode c_La_law 466 = .ok (.goto 4, 3) := by decide +kernel
theorem d_La_law_469 : decode c_La_law 469 = .ok (.lconst 0, 1) := by decide +kernel
theorem d_La_law_470 : decode c_La_law 470 = .ok (.lcmp, 1) := by decide +kernel
theorem d_La_law_471 : decode c_La_law 471 = .ok (.ifCond .eq 5, 3) := by decide +kernel
theorem d_La_law_474 : decode c_La_law 474 = .ok (.iconst 0, 1) := by decide +kernel
theorem d_La_law_475 : decode c_La_law 475 = .ok (.ireturn, 1) := by decide +kernel
theorem d_La_law_476 : decode c_La_law 476 = .ok (.goto 818, 3) := by decide +kernel
theorem d_La_law_479 : decode c_La_law 479 = .ok (.aload_n 1, 1) := by decide +kernel
theorem d_La_law_480 : decode c_La_law 480 = .ok (.aload_n 0, 1) := by decide +kernel
theorem d_La_law_481 : decode c_La_law 481 = .ok (.iload 4, 2) := by decide +kernel
theorem d_La_law_483 : decode c_La_law 483 = .ok (.iconst 1, 1) := by decide +kernel
theorem d_La_law_484 : decode c_La_law 484 = .ok (.iadd, 1) := by decide +kernel
theorem d_La_law_485 : decode c_La_law 485 = .ok (.iaload, 1) := by decide +kernel
theorem d_La_law_486 : decode c_La_law 486 = .ok (.aload_n 0, 1) := by decide +kernel
theorem d_La_law_487 : decode c_La_law 487 = .ok (.iload 4, 2) := by decide +kernel
theorem d_La_law_489 : decode c_La_law 489 = .ok (.iconst 2, 1) := by decide +kernel
theorem d_La_law_490 : decode c_La_law 490 = .ok (.iadd, 1) := by decide +kernel
theorem d_La_law_491 : decode c_La_law 491 = .ok (.iaload, 1) := by decide +kernel
theorem d_La_law_492 : decode c_La_law 492 = .ok (.ifCond .eq 7, 3) := by decide +kernel
theorem d_La_law_495 : decode c_La_law 495 = .ok (.iconst 1, 1) := by decide +kernel
theorem d_La_law_496 : decode c_La_law 496 = .ok (.goto 4, 3) := by decide +kernel
theorem d_La_law_499 : decode c_La_law 499 = .ok (.iconst 0, 1) := by decide +kernel
theorem d_La_law_500 : decode c_La_law 500 = .ok (.aload_n 3, 1) := by decide +kernel
theorem d_La_law_501 : decode c_La_law 501 = .ok (.invokestatic 97, 3) := by decide +kernel
theorem d_La_law_504 : decode c_La_law 504 = .ok (.istore 5, 2) := by decide +kernel
theorem d_La_law_506 : decode c_La_law 506 = .ok (.aload_n 2, 1) := by decide +kernel
theorem d_La_law_507 : decode c_La_law 507 = .ok (.aload_n 0, 1) := by decide +kernel
theorem d_La_law_508 : decode c_La_law 508 = .ok (.iload 4, 2) := by decide +kernel
theorem d_La_law_510 : decode c_La_law 510 = .ok (.iconst 1, 1) := by decide +kernel
theorem d_La_law_511 : decode c_La_law 511 = .ok (.iadd, 1) := by decide +kernel
theorem d_La_law_512 : decode c_La_law 512 = .ok (.iaload, 1) := by decide +kernel
theorem d_La_law_513 : decode c_La_law 513 = .ok (.aload_n 0, 1) := by decide +kernel
theorem d_La_law_514 : decode c_La_law 514 = .ok (.iload 4, 2) := by decide +kernel
theorem d_La_law_516 : decode c_La_law 516 = .ok (.iconst 2, 1) := by decide +kernel
theorem d_La_law_517 : decode c_La_law 517 = .ok (.iadd, 1) := by decide +kernel
theorem d_La_law_518 : decode c_La_law 518 = .ok (.iaload, 1) := by decide +kernel
theorem d_La_law_519 : decode c_La_law 519 = .ok (.ifCond .eq 7, 3) := by decide +kernel
theorem d_La_law_522 : decode c_La_law 522 = .ok (.iconst 1, 1) := by decide +kernel
theorem d_La_law_523 : decode c_La_law 523 = .ok (.goto 4, 3) := by decide +kernel
theorem d_La_law_526 : decode c_La_law 526 = .ok (.iconst 0, 1) := by decide +kernel
theorem d_La_law_527 : decode c_La_law 527 = .ok (.invokevirtual 100, 3) := by decide +kernel
theorem d_La_law_530 : decode c_La_law 530 = .ok (.istore 6, 2) := by decide +kernel
theorem d_La_law_532 : decode c_La_law 532 = .ok (.aload_n 2, 1) := by decide +kernel
theorem d_La_law_533 : decode c_La_law 533 = .ok (.invokevirtual 79, 3) := by decide +kernel
theorem d_La_law_536 : decode c_La_law 536 = .ok (.iload 5, 2) := by decide +kernel
theorem d_La_law_538 : decode c_La_law 538 = .ok (.if_icmp .eq 5, 3) := by decide +kernel
theorem d_La_law_541 : decode c_La_law 541 = .ok (.iconst 0, 1) := by decide +kernel
theorem d_La_law_542 : decode c_La_law 542 = .ok (.ireturn, 1) := by decide +kernel
theorem d_La_law_543 : decode c_La_law 543 = .ok (.iload 5, 2) := by decide +kernel
theorem d_La_law_545 : decode c_La_law 545 = .ok (.ifCond .ne 22, 3) := by decide +kernel
theorem d_La_law_548 : decode c_La_law 548 = .ok (.aload_n 3, 1) := by decide +kernel
theorem d_La_law_549 : decode c_La_law 549 = .ok (.iconst 0, 1) := by decide +kernel
theorem d_La_law_550 : decode c_La_law 550 = .ok (.laload, 1) := by decide +kernel
theorem d_La_law_551 : decode c_La_law 551 = .ok (.iload 6, 2) := by decide +kernel
theorem d_La_law_553 : decode c_La_law 553 = .ok (.ifCond .eq 7, 3) := by decide +kernel
theorem d_La_law_556 : decode c_La_law 556 = .ok (.lconst 1, 1) := by decide +kernel
theorem d_La_law_557 : decode c_La_law 557 = .ok (.goto 4, 3) := by decide +kernel
theorem d_La_law_560 : decode c_La_law 560 = .ok (.lconst 0, 1) := by decide +kernel
theorem d_La_law_561 : decode c_La_law 561 = .ok (.lcmp, 1) := by decide +kernel
theorem d_La_law_562 : decode c_La_law 562 = .ok (.ifCond .eq 5, 3) := by decide +kernel
theorem d_La_law_565 : decode c_La_law 565 = .ok (.iconst 0, 1) := by decide +kernel
theorem d_La_law_566 : decode c_La_law 566 = .ok (.ireturn, 1) := by decide +kernel
theorem d_La_law_567 : decode c_La_law 567 = .ok (.goto 727, 3) := by decide +kernel
theorem d_La_law_570 : decode c_La_law 570 = .ok (.aload_n 1, 1) := by decide +kernel
theorem d_La_law_571 : decode c_La_law 571 = .ok (.aload_n 0, 1) := by decide +kernel
theorem d_La_law_572 : decode c_La_law 572 = .ok (.iload 4, 2) := by decide +kernel
theorem d_La_law_574 : decode c_La_law 574 = .ok (.iconst 1, 1) := by decide +kernel
theorem d_La_law_575 : decode c_La_law 575 = .ok (.iadd, 1) := by decide +kernel
theorem d_La_law_576 : decode c_La_law 576 = .ok (.iaload, 1) := by decide +kernel
theorem d_La_law_577 : decode c_La_law 577 = .ok (.aload_n 0, 1) := by decide +kernel
theorem d_La_law_578 : decode c_La_law 578 = .ok (.iload 4, 2) := by decide +kernel
theorem d_La_law_580 : decode c_La_law 580 = .ok (.iconst 2, 1) := by decide +kernel
theorem d_La_law_581 : decode c_La_law 581 = .ok (.iadd, 1) := by decide +kernel
theorem d_La_law_582 : decode c_La_law 582 = .ok (.iaload, 1) := by decide +kernel
theorem d_La_law_583 : decode c_La_law 583 = .ok (.aload_n 3, 1) := by decide +kernel
theorem d_La_law_584 : decode c_La_law 584 = .ok (.invokestatic 101, 3) := by decide +kernel
theorem d_La_law_587 : decode c_La_law 587 = .ok (.istore 5, 2) := by decide +kernel
theorem d_La_law_589 : decode c_La_law 589 = .ok (.aload_n 2, 1) := by decide +kernel
theorem d_La_law_590 : decode c_La_law 590 = .ok (.aload_n 0, 1) := by decide +kernel
theorem d_La_law_591 : decode c_La_law 591 = .ok (.iload 4, 2) := by decide +kernel
theorem d_La_law_593 : decode c_La_law 593 = .ok (.iconst 1, 1) := by decide +kernel
theorem d_La_law_594 : decode c_La_law 594 = .ok (.iadd, 1) := by decide +kernel
theorem d_La_law_595 : decode c_La_law 595 = .ok (.iaload, 1) := by decide +kernel
theorem d_La_law_596 : decode c_La_law 596 = .ok (.aload_n 0, 1) := by decide +kernel
theorem d_La_law_597 : decode c_La_law 597 = .ok (.iload 4, 2) := by decide +kernel
theorem d_La_law_599 : decode c_La_law 599 = .ok (.iconst 2, 1) := by decide +kernel
theorem d_La_law_600 : decode c_La_law 600 = .ok (.iadd, 1) := by decide +kernel
theorem d_La_law_601 : decode c_La_law 601 = .ok (.iaload, 1) := by decide +kernel
theorem d_La_law_602 : decode c_La_law 602 = .ok (.invokevirtual 103, 3) := by decide +kernel
theorem d_La_law_605 : decode c_La_law 605 = .ok (.istore 6, 2) := by decide +kernel
theorem d_La_law_607 : decode c_La_law 607 = .ok (.aload_n 2, 1) := by decide +kernel
theorem d_La_law_608 : decode c_La_law 608 = .ok (.invokevirtual 79, 3) := by decide +kernel
theorem d_La_law_611 : decode c_La_law 611 = .ok (.iload 5, 2) := by decide +kernel
theorem d_La_law_613 : decode c_La_law 613 = .ok (.if_icmp .eq 5, 3) := by decide +kernel
theorem d_La_law_616 : decode c_La_law 616 = .ok (.iconst 0, 1) := by decide +kernel
theorem d_La_law_617 : decode c_La_law 617 = .ok (.ireturn, 1) := by decide +kernel
theorem d_La_law_618 : decode c_La_law 618 = .ok (.iload 5, 2) := by decide +kernel
theorem d_La_law_620 : decode c_La_law 620 = .ok (.ifCond .ne 15, 3) := by decide +kernel
theorem d_La_law_623 : decode c_La_law 623 = .ok (.aload_n 3, 1) := by decide +kernel
theorem d_La_law_624 : decode c_La_law 624 = .ok (.iconst 0, 1) := by decide +kernel
theorem d_La_law_625 : decode c_La_law 625 = .ok (.laload, 1) := by decide +kernel
theorem d_La_law_626 : decode c_La_law 626 = .ok (.iload 6, 2) := by decide +kernel
theorem d_La_law_628 : decode c_La_law 628 = .ok (.i2l, 1) := by decide +kernel
theorem d_La_law_629 : decode c_La_law 629 = .ok (.lcmp, 1) := by decide +kernel
theorem d_La_law_630 : decode c_La_law 630 = .ok (.ifCond .eq 5, 3) := by decide +kernel
theorem d_La_law_633 : decode c_La_law 633 = .ok (.iconst 0, 1) := by decide +kernel
theorem d_La_law_634 : decode c_La_law 634 = .ok (.ireturn, 1) := by decide +kernel
theorem d_La_law_635 : decode c_La_law 635 = .ok (.goto 659, 3) := by decide +kernel
theorem d_La_law_638 : decode c_La_law 638 = .ok (.aload_n 1, 1) := by decide +kernel
theorem d_La_law_639 : decode c_La_law 639 = .ok (.aload_n 0, 1) := by decide +kernel
theorem d_La_law_640 : decode c_La_law 640 = .ok (.iload 4, 2) := by decide +kernel
theorem d_La_law_642 : decode c_La_law 642 = .ok (.iconst 1, 1) := by decide +kernel
theorem d_La_law_643 : decode c_La_law 643 = .ok (.iadd, 1) := by decide +kernel
theorem d_La_law_644 : decode c_La_law 644 = .ok (.iaload, 1) := by decide +kernel
theorem d_La_law_645 : decode c_La_law 645 = .ok (.aload_n 3, 1) := by decide +kernel
theorem d_La_law_646 : decode c_La_law 646 = .ok (.invokestatic 104, 3) := by decide +kernel
theorem d_La_law_649 : decode c_La_law 649 = .ok (.istore 5, 2) := by decide +kernel
theorem d_La_law_651 : decode c_La_law 651 = .ok (.aload_n 2, 1) := by decide +kernel
theorem d_La_law_652 : decode c_La_law 652 = .ok (.aload_n 0, 1) := by decide +kernel
theorem d_La_law_653 : decode c_La_law 653 = .ok (.iload 4, 2) := by decide +kernel
theorem d_La_law_655 : decode c_La_law 655 = .ok (.iconst 1, 1) := by decide +kernel
theorem d_La_law_656 : decode c_La_law 656 = .ok (.iadd, 1) := by decide +kernel
theorem d_La_law_657 : decode c_La_law 657 = .ok (.iaload, 1) := by decide +kernel
theorem d_La_law_658 : decode c_La_law 658 = .ok (.invokevirtual 106, 3) := by decide +kernel
theorem d_La_law_661 : decode c_La_law 661 = .ok (.istore 6, 2) := by decide +kernel
theorem d_La_law_663 : decode c_La_law 663 = .ok (.aload_n 2, 1) := by decide +kernel
theorem d_La_law_664 : decode c_La_law 664 = .ok (.invokevirtual 79, 3) := by decide +kernel
theorem d_La_law_667 : decode c_La_law 667 = .ok (.iload 5, 2) := by decide +kernel
theorem d_La_law_669 : decode c_La_law 669 = .ok (.if_icmp .eq 5, 3) := by decide +kernel
theorem d_La_law_672 : decode c_La_law 672 = .ok (.iconst 0, 1) := by decide +kernel
theorem d_La_law_673 : decode c_La_law 673 = .ok (.ireturn, 1) := by decide +kernel
theorem d_La_law_674 : decode c_La_law 674 = .ok (.iload 5, 2) := by decide +kernel
theorem d_La_law_676 : decode c_La_law 676 = .ok (.ifCond .ne 15, 3) := by decide +kernel
theorem d_La_law_679 : decode c_La_law 679 = .ok (.aload_n 3, 1) := by decide +kernel
theorem d_La_law_680 : decode c_La_law 680 = .ok (.iconst 0, 1) := by decide +kernel
theorem d_La_law_681 : decode c_La_law 681 = .ok (.laload, 1) := by decide +kernel
theorem d_La_law_682 : decode c_La_law 682 = .ok (.iload 6, 2) := by decide +kernel
theorem d_La_law_684 : decode c_La_law 684 = .ok (.i2l, 1) := by decide +kernel
theorem d_La_law_685 : decode c_La_law 685 = .ok (.lcmp, 1) := by decide +kernel
theorem d_La_law_686 : decode c_La_law 686 = .ok (.ifCond .eq 5, 3) := by decide +kernel
theorem d_La_law_689 : decode c_La_law 689 = .ok (.iconst 0, 1) := by decide +kernel
theorem d_La_law_690 : decode c_La_law 690 = .ok (.ireturn, 1) := by decide +kernel
theorem d_La_law_691 : decode c_La_law 691 = .ok (.goto 603, 3) := by decide +kernel
theorem d_La_law_694 : decode c_La_law 694 = .ok (.aload_n 1, 1) := by decide +kernel
theorem d_La_law_695 : decode c_La_law 695 = .ok (.aload_n 0, 1) := by decide +kernel
theorem d_La_law_696 : decode c_La_law 696 = .ok (.iload 4, 2) := by decide +kernel
theorem d_La_law_698 : decode c_La_law 698 = .ok (.iconst 1, 1) := by decide +kernel
theorem d_La_law_699 : decode c_La_law 699 = .ok (.iadd, 1) := by decide +kernel
theorem d_La_law_700 : decode c_La_law 700 = .ok (.iaload, 1) := by decide +kernel
theorem d_La_law_701 : decode c_La_law 701 = .ok (.aload_n 0, 1) := by decide +kernel
theorem d_La_law_702 : decode c_La_law 702 = .ok (.iload 4, 2) := by decide +kernel
theorem d_La_law_704 : decode c_La_law 704 = .ok (.iconst 2, 1) := by decide +kernel
theorem d_La_law_705 : decode c_La_law 705 = .ok (.iadd, 1) := by decide +kernel
theorem d_La_law_706 : decode c_La_law 706 = .ok (.iaload, 1) := by decide +kernel
theorem d_La_law_707 : decode c_La_law 707 = .ok (.aload_n 3, 1) := by decide +kernel
theorem d_La_law_708 : decode c_La_law 708 = .ok (.invokestatic 107, 3) := by decide +kernel
theorem d_La_law_711 : decode c_La_law 711 = .ok (.istore 5, 2) := by decide +kernel
theorem d_La_law_713 : decode c_La_law 713 = .ok (.aload_n 2, 1) := by decide +kernel
theorem d_La_law_714 : decode c_La_law 714 = .ok (.aload_n 0, 1) := by decide +kernel
theorem d_La_law_715 : decode c_La_law 715 = .ok (.iload 4, 2) := by decide +kernel
theorem d_La_law_717 : decode c_La_law 717 = .ok (.iconst 1, 1) := by decide +kernel
theorem d_La_law_718 : decode c_La_law 718 = .ok (.iadd, 1) := by decide +kernel
theorem d_La_law_719 : decode c_La_law 719 = .ok (.iaload, 1) := by decide +kernel
theorem d_La_law_720 : decode c_La_law 720 = .ok (.aload_n 0, 1) := by decide +kernel
theorem d_La_law_721 : decode c_La_law 721 = .ok (.iload 4, 2) := by decide +kernel
theorem d_La_law_723 : decode c_La_law 723 = .ok (.iconst 2, 1) := by decide +kernel
theorem d_La_law_724 : decode c_La_law 724 = .ok (.iadd, 1) := by decide +kernel
theorem d_La_law_725 : decode c_La_law 725 = .ok (.iaload, 1) := by decide +kernel
theorem d_La_law_726 : decode c_La_law 726 = .ok (.invokevirtual 109, 3) := by decide +kernel
theorem d_La_law_729 : decode c_La_law 729 = .ok (.istore 6, 2) := by decide +kernel
theorem d_La_law_731 : decode c_La_law 731 = .ok (.aload_n 2, 1) := by decide +kernel
theorem d_La_law_732 : decode c_La_law 732 = .ok (.invokevirtual 79, 3) := by decide +kernel
theorem d_La_law_735 : decode c_La_law 735 = .ok (.iload 5, 2) := by decide +kernel
theorem d_La_law_737 : decode c_La_law 737 = .ok (.if_icmp .eq 5, 3) := by decide +kernel
theorem d_La_law_740 : decode c_La_law 740 = .ok (.iconst 0, 1) := by decide +kernel
theorem d_La_law_741 : decode c_La_law 741 = .ok (.ireturn, 1) := by decide +kernel
theorem d_La_law_742 : decode c_La_law 742 = .ok (.iload 5, 2) := by decide +kernel
theorem d_La_law_744 : decode c_La_law 744 = .ok (.ifCond .ne 22, 3) := by decide +kernel
theorem d_La_law_747 : decode c_La_law 747 = .ok (.aload_n 3, 1) := by decide +kernel
theorem d_La_law_748 : decode c_La_law 748 = .ok (.iconst 0, 1) := by decide +kernel
theorem d_La_law_749 : decode c_La_law 749 = .ok (.laload, 1) := by decide +kernel
theorem d_La_law_750 : decode c_La_law 750 = .ok (.iload 6, 2) := by decide +kernel
theorem d_La_law_752 : decode c_La_law 752 = .ok (.ifCond .eq 7, 3) := by decide +kernel
theorem d_La_law_755 : decode c_La_law 755 = .ok (.lconst 1, 1) := by decide +kernel
theorem d_La_law_756 : decode c_La_law 756 = .ok (.goto 4, 3) := by decide +kernel
theorem d_La_law_759 : decode c_La_law 759 = .ok (.lconst 0, 1) := by decide +kernel
theorem d_La_law_760 : decode c_La_law 760 = .ok (.lcmp, 1) := by decide +kernel
theorem d_La_law_761 : decode c_La_law 761 = .ok (.ifCond .eq 5, 3) := by decide +kernel
theorem d_La_law_764 : decode c_La_law 764 = .ok (.iconst 0, 1) := by decide +kernel
theorem d_La_law_765 : decode c_La_law 765 = .ok (.ireturn, 1) := by decide +kernel
theorem d_La_law_766 : decode c_La_law 766 = .ok (.goto 528, 3) := by decide +kernel
theorem d_La_law_769 : decode c_La_law 769 = .ok (.aload_n 1, 1) := by decide +kernel
theorem d_La_law_770 : decode c_La_law 770 = .ok (.invokevirtual 110, 3) := by decide +kernel
theorem d_La_law_773 : decode c_La_law 773 = .ok (.aload_n 2, 1) := by decide +kernel
theorem d_La_law_774 : decode c_La_law 774 = .ok (.invokevirtual 114, 3) := by decide +kernel
theorem d_La_law_777 : decode c_La_law 777 = .ok (.if_icmp .eq 517, 3) := by decide +kernel
theorem d_La_law_780 : decode c_La_law 780 = .ok (.iconst 0, 1) := by decide +kernel
theorem d_La_law_781 : decode c_La_law 781 = .ok (.ireturn, 1) := by decide +kernel
theorem d_La_law_782 : decode c_La_law 782 = .ok (.aload_n 1, 1) := by decide +kernel
theorem d_La_law_783 : decode c_La_law 783 = .ok (.aload_n 0, 1) := by decide +kernel
theorem d_La_law_784 : decode c_La_law 784 = .ok (.iload 4, 2) := by decide +kernel
theorem d_La_law_786 : decode c_La_law 786 = .ok (.iconst 1, 1) := by decide +kernel
theorem d_La_law_787 : decode c_La_law 787 = .ok (.iadd, 1) := by decide +kernel
theorem d_La_law_788 : decode c_La_law 788 = .ok (.iaload, 1) := by decide +kernel
theorem d_La_law_789 : decode c_La_law 789 = .ok (.aload_n 0, 1) := by decide +kernel
theorem d_La_law_790 : decode c_La_law 790 = .ok (.iload 4, 2) := by decide +kernel
theorem d_La_law_792 : decode c_La_law 792 = .ok (.iconst 2, 1) := by decide +kernel
theorem d_La_law_793 : decode c_La_law 793 = .ok (.iadd, 1) := by decide +kernel
theorem d_La_law_794 : decode c_La_law 794 = .ok (.iaload, 1) := by decide +kernel
theorem d_La_law_795 : decode c_La_law 795 = .ok (.aload_n 3, 1) := by decide +kernel
theorem d_La_law_796 : decode c_La_law 796 = .ok (.invokestatic 115, 3) := by decide +kernel
theorem d_La_law_799 : decode c_La_law 799 = .ok (.istore 5, 2) := by decide +kernel
theorem d_La_law_801 : decode c_La_law 801 = .ok (.aload_n 2, 1) := by decide +kernel
theorem d_La_law_802 : decode c_La_law 802 = .ok (.aload_n 0, 1) := by decide +kernel
theorem d_La_law_803 : decode c_La_law 803 = .ok (.iload 4, 2) := by decide +kernel
theorem d_La_law_805 : decode c_La_law 805 = .ok (.iconst 1, 1) := by decide +kernel
theorem d_La_law_806 : decode c_La_law 806 = .ok (.iadd, 1) := by decide +kernel
theorem d_La_law_807 : decode c_La_law 807 = .ok (.iaload, 1) := by decide +kernel
theorem d_La_law_808 : decode c_La_law 808 = .ok (.aload_n 0, 1) := by decide +kernel
theorem d_La_law_809 : decode c_La_law 809 = .ok (.iload 4, 2) := by decide +kernel
theorem d_La_law_811 : decode c_La_law 811 = .ok (.iconst 2, 1) := by decide +kernel
theorem d_La_law_812 : decode c_La_law 812 = .ok (.iadd, 1) := by decide +kernel
theorem d_La_law_813 : decode c_La_law 813 = .ok (.iaload, 1) := by decide +kernel
theorem d_La_law_814 : decode c_La_law 814 = .ok (.invokevirtual 117, 3) := by decide +kernel
theorem d_La_law_817 : decode c_La_law 817 = .ok (.istore 6, 2) := by decide +kernel
theorem d_La_law_819 : decode c_La_law 819 = .ok (.aload_n 2, 1) := by decide +kernel
theorem d_La_law_820 : decode c_La_law 820 = .ok (.invokevirtual 79, 3) := by decide +kernel
theorem d_La_law_823 : decode c_La_law 823 = .ok (.iload 5, 2) := by decide +kernel
theorem d_La_law_825 : decode c_La_law 825 = .ok (.if_icmp .eq 5, 3) := by decide +kernel
theorem d_La_law_828 : decode c_La_law 828 = .ok (.iconst 0, 1) := by decide +kernel
theorem d_La_law_829 : decode c_La_law 829 = .ok (.ireturn, 1) := by decide +kernel
theorem d_La_law_830 : decode c_La_law 830 = .ok (.iload 5, 2) := by decide +kernel
theorem d_La_law_832 : decode c_La_law 832 = .ok (.ifCond .ne 15, 3) := by decide +kernel
theorem d_La_law_835 : decode c_La_law 835 = .ok (.aload_n 3, 1) := by decide +kernel
theorem d_La_law_836 : decode c_La_law 836 = .ok (.iconst 0, 1) := by decide +kernel
theorem d_La_law_837 : decode c_La_law 837 = .ok (.laload, 1) := by decide +kernel
theorem d_La_law_838 : decode c_La_law 838 = .ok (.iload 6, 2) := by decide +kernel
theorem d_La_law_840 : decode c_La_law 840 = .ok (.i2l, 1) := by decide +kernel
theorem d_La_law_841 : decode c_La_law 841 = .ok (.lcmp, 1) := by decide +kernel
theorem d_La_law_842 : decode c_La_law 842 = .ok (.ifCond .eq 5, 3) := by decide +kernel
theorem d_La_law_845 : decode c_La_law 845 = .ok (.iconst 0, 1) := by decide +kernel
theorem d_La_law_846 : decode c_La_law 846 = .ok (.ireturn, 1) := by decide +kernel
theorem d_La_law_847 : decode c_La_law 847 = .ok (.goto 447, 3) := by decide +kernel
theorem d_La_law_850 : decode c_La_law 850 = .ok (.aload_n 1, 1) := by decide +kernel
theorem d_La_law_851 : decode c_La_law 851 = .ok (.invokevirtual 118, 3) := by decide +kernel
theorem d_La_law_854 : decode c_La_law 854 = .ok (.aload_n 2, 1) := by decide +kernel
theorem d_La_law_855 : decode c_La_law 855 = .ok (.invokevirtual 121, 3) := by decide +kernel
theorem d_La_law_858 : decode c_La_law 858 = .ok (.if_icmp .eq 436, 3) := by decide +kernel
theorem d_La_law_861 : decode c_La_law 861 = .ok (.iconst 0, 1) := by decide +kernel
theorem d_La_law_862 : decode c_La_law 862 = .ok (.ireturn, 1) := by decide +kernel
theorem d_La_law_863 : decode c_La_law 863 = .ok (.aload_n 1, 1) := by decide +kernel
theorem d_La_law_864 : decode c_La_law 864 = .ok (.invokevirtual 122, 3) := by decide +kernel
theorem d_La_law_867 : decode c_La_law 867 = .ok (.aload_n 2, 1) := by decide +kernel
theorem d_La_law_868 : decode c_La_law 868 = .ok (.invokevirtual 125, 3) := by decide +kernel
theorem d_La_law_871 : decode c_La_law 871 = .ok (.if_icmp .eq 423, 3) := by decide +kernel
theorem d_La_law_874 : decode c_La_law 874 = .ok (.iconst 0, 1) := by decide +kernel
theorem d_La_law_875 : decode c_La_law 875 = .ok (.ireturn, 1) := by decide +kernel
theorem d_La_law_876 : decode c_La_law 876 = .ok (.aload_n 1, 1) := by decide +kernel
theorem d_La_law_877 : decode c_La_law 877 = .ok (.aload_n 0, 1) := by decide +kernel
theorem d_La_law_878 : decode c_La_law 878 = .ok (.iload 4, 2) := by decide +kernel
theorem d_La_law_880 : decode c_La_law 880 = .ok (.iconst 1, 1) := by decide +kernel
theorem d_La_law_881 : decode c_La_law 881 = .ok (.iadd, 1) := by decide +kernel
theorem d_La_law_882 : decode c_La_law 882 = .ok (.iaload, 1) := by decide +kernel
theorem d_La_law_883 : decode c_La_law 883 = .ok (.aload_n 3, 1) := by decide +kernel
theorem d_La_law_884 : decode c_La_law 884 = .ok (.invokestatic 126, 3) := by decide +kernel
theorem d_La_law_887 : decode c_La_law 887 = .ok (.istore 5, 2) := by decide +kernel
theorem d_La_law_889 : decode c_La_law 889 = .ok (.aload_n 2, 1) := by decide +kernel
theorem d_La_law_890 : decode c_La_law 890 = .ok (.aload_n 0, 1) := by decide +kernel
theorem d_La_law_891 : decode c_La_law 891 = .ok (.iload 4, 2) := by decide +kernel
theorem d_La_law_893 : decode c_La_law 893 = .ok (.iconst 1, 1) := by decide +kernel
theorem d_La_law_894 : decode c_La_law 894 = .ok (.iadd, 1) := by decide +kernel
theorem d_La_law_895 : decode c_La_law 895 = .ok (.iaload, 1) := by decide +kernel
theorem d_La_law_896 : decode c_La_law 896 = .ok (.invokevirtual 128, 3) := by decide +kernel
theorem d_La_law_899 : decode c_La_law 899 = .ok (.istore 6, 2) := by decide +kernel
theorem d_La_law_901 : decode c_La_law 901 = .ok (.aload_n 2, 1) := by decide +kernel
theorem d_La_law_902 : decode c_La_law 902 = .ok (.invokevirtual 79, 3) := by decide +kernel
theorem d_La_law_905 : decode c_La_law 905 = .ok (.iload 5, 2) := by decide +kernel
theorem d_La_law_907 : decode c_La_law 907 = .ok (.if_icmp .eq 5, 3) := by decide +kernel
theorem d_La_law_910 : decode c_La_law 910 = .ok (.iconst 0, 1) := by decide +kernel
theorem d_La_law_911 : decode c_La_law 911 = .ok (.ireturn, 1) := by decide +kernel
theorem d_La_law_912 : decode c_La_law 912 = .ok (.iload 5, 2) := by decide +kernel
theorem d_La_law_914 : decode c_La_law 914 = .ok (.ifCond .ne 22, 3) := by decide +kernel
theorem d_La_law_917 : decode c_La_law 917 = .ok (.aload_n 3, 1) := by decide +kernel
theorem d_La_law_918 : decode c_La_law 918 = .ok (.iconst 0, 1) := by decide +kernel
theorem d_La_law_919 : decode c_La_law 919 = .ok (.laload, 1) := by decide +kernel
theorem d_La_law_920 : decode c_La_law 920 = .ok (.iload 6, 2) := by decide +kernel
theorem d_La_law_922 : decode c_La_law 922 = .ok (.ifCond .eq 7, 3) := by decide +kernel
theorem d_La_law_925 : decode c_La_law 925 = .ok (.lconst 1, 1) := by decide +kernel
theorem d_La_law_926 : decode c_La_law 926 = .ok (.goto 4, 3) := by decide +kernel
theorem d_La_law_929 : decode c_La_law 929 = .ok (.lconst 0, 1) := by decide +kernel
theorem d_La_law_930 : decode c_La_law 930 = .ok (.lcmp, 1) := by decide +kernel
theorem d_La_law_931 : decode c_La_law 931 = .ok (.ifCond .eq 5, 3) := by decide +kernel
theorem d_La_law_934 : decode c_La_law 934 = .ok (.iconst 0, 1) := by decide +kernel
theorem d_La_law_935 : decode c_La_law 935 = .ok (.ireturn, 1) := by decide +kernel
theorem d_La_law_936 : decode c_La_law 936 = .ok (.goto 358, 3) := by decide +kernel
theorem d_La_law_939 : decode c_La_law 939 = .ok (.aload_n 1, 1) := by decide +kernel
theorem d_La_law_940 : decode c_La_law 940 = .ok (.aload_n 0, 1) := by decide +kernel
theorem d_La_law_941 : decode c_La_law 941 = .ok (.iload 4, 2) := by decide +kernel
theorem d_La_law_943 : decode c_La_law 943 = .ok (.iconst 1, 1) := by decide +kernel
theorem d_La_law_944 : decode c_La_law 944 = .ok (.iadd, 1) := by decide +kernel
theorem d_La_law_945 : decode c_La_law 945 = .ok (.iaload, 1) := by decide +kernel
theorem d_La_law_946 : decode c_La_law 946 = .ok (.aload_n 3, 1) := by decide +kernel
theorem d_La_law_947 : decode c_La_law 947 = .ok (.invokestatic 129, 3) := by decide +kernel
theorem d_La_law_950 : decode c_La_law 950 = .ok (.istore 5, 2) := by decide +kernel
theorem d_La_law_952 : decode c_La_law 952 = .ok (.aload_n 2, 1) := by decide +kernel
theorem d_La_law_953 : decode c_La_law 953 = .ok (.aload_n 0, 1) := by decide +kernel
theorem d_La_law_954 : decode c_La_law 954 = .ok (.iload 4, 2) := by decide +kernel
theorem d_La_law_956 : decode c_La_law 956 = .ok (.iconst 1, 1) := by decide +kernel
theorem d_La_law_957 : decode c_La_law 957 = .ok (.iadd, 1) := by decide +kernel
theorem d_La_law_958 : decode c_La_law 958 = .ok (.iaload, 1) := by decide +kernel
theorem d_La_law_959 : decode c_La_law 959 = .ok (.invokevirtual 131, 3) := by decide +kernel
theorem d_La_law_962 : decode c_La_law 962 = .ok (.istore 6, 2) := by decide +kernel
theorem d_La_law_964 : decode c_La_law 964 = .ok (.aload_n 2, 1) := by decide +kernel
theorem d_La_law_965 : decode c_La_law 965 = .ok (.invokevirtual 79, 3) := by decide +kernel
theorem d_La_law_968 : decode c_La_law 968 = .ok (.iload 5, 2) := by decide +kernel
theorem d_La_law_970 : decode c_La_law 970 = .ok (.if_icmp .eq 5, 3) := by decide +kernel
theorem d_La_law_973 : decode c_La_law 973 = .ok (.iconst 0, 1) := by decide +kernel
theorem d_La_law_974 : decode c_La_law 974 = .ok (.ireturn, 1) := by decide +kernel
theorem d_La_law_975 : decode c_La_law 975 = .ok (.iload 5, 2) := by decide +kernel
theorem d_La_law_977 : decode c_La_law 977 = .ok (.ifCond .ne 22, 3) := by decide +kernel
theorem d_La_law_980 : decode c_La_law 980 = .ok (.aload_n 3, 1) := by decide +kernel
theorem d_La_law_981 : decode c_La_law 981 = .ok (.iconst 0, 1) := by decide +kernel
theorem d_La_law_982 : decode c_La_law 982 = .ok (.laload, 1) := by decide +kernel
theorem d_La_law_983 : decode c_La_law 983 = .ok (.iload 6, 2) := by decide +kernel
theorem d_La_law_985 : decode c_La_law 985 = .ok (.ifCond .eq 7, 3) := by decide +kernel
theorem d_La_law_988 : decode c_La_law 988 = .ok (.lconst 1, 1) := by decide +kernel
theorem d_La_law_989 : decode c_La_law 989 = .ok (.goto 4, 3) := by decide +kernel
theorem d_La_law_992 : decode c_La_law 992 = .ok (.lconst 0, 1) := by decide +kernel
theorem d_La_law_993 : decode c_La_law 993 = .ok (.lcmp, 1) := by decide +kernel
theorem d_La_law_994 : decode c_La_law 994 = .ok (.ifCond .eq 5, 3) := by decide +kernel
theorem d_La_law_997 : decode c_La_law 997 = .ok (.iconst 0, 1) := by decide +kernel
theorem d_La_law_998 : decode c_La_law 998 = .ok (.ireturn, 1) := by decide +kernel
theorem d_La_law_999 : decode c_La_law 999 = .ok (.goto 295, 3) := by decide +kernel
theorem d_La_law_1002 : decode c_La_law 1002 = .ok (.aload_n 1, 1) := by decide +kernel
theorem d_La_law_1003 : decode c_La_law 1003 = .ok (.aload_n 0, 1) := by decide +kernel
theorem d_La_law_1004 : decode c_La_law 1004 = .ok (.iload 4, 2) := by decide +kernel
theorem d_La_law_1006 : decode c_La_law 1006 = .ok (.iconst 1, 1) := by decide +kernel
theorem d_La_law_1007 : decode c_La_law 1007 = .ok (.iadd, 1) := by decide +kernel
theorem d_La_law_1008 : decode c_La_law 1008 = .ok (.iaload, 1) := by decide +kernel
theorem d_La_law_1009 : decode c_La_law 1009 = .ok (.aload_n 0, 1) := by decide +kernel
theorem d_La_law_1010 : decode c_La_law 1010 = .ok (.iload 4, 2) := by decide +kernel
theorem d_La_law_1012 : decode c_La_law 1012 = .ok (.iconst 2, 1) := by decide +kernel
theorem d_La_law_1013 : decode c_La_law 1013 = .ok (.iadd, 1) := by decide +kernel
theorem d_La_law_1014 : decode c_La_law 1014 = .ok (.iaload, 1) := by decide +kernel
theorem d_La_law_1015 : decode c_La_law 1015 = .ok (.aload_n 3, 1) := by decide +kernel
theorem d_La_law_1016 : decode c_La_law 1016 = .ok (.invokestatic 132, 3) := by decide +kernel
theorem d_La_law_1019 : decode c_La_law 1019 = .ok (.istore 5, 2) := by decide +kernel
theorem d_La_law_1021 : decode c_La_law 1021 = .ok (.aload_n 2, 1) := by decide +kernel
theorem d_La_law_1022 : decode c_La_law 1022 = .ok (.aload_n 0, 1) := by decide +kernel
theorem d_La_law_1023 : decode c_La_law 1023 = .ok (.iload 4, 2) := by decide +kernel
theorem d_La_law_1025 : decode c_La_law 1025 = .ok (.iconst 1, 1) := by decide +kernel
theorem d_La_law_1026 : decode c_La_law 1026 = .ok (.iadd, 1) := by decide +kernel
theorem d_La_law_1027 : decode c_La_law 1027 = .ok (.iaload, 1) := by decide +kernel
theorem d_La_law_1028 : decode c_La_law 1028 = .ok (.aload_n 0, 1) := by decide +kernel
theorem d_La_law_1029 : decode c_La_law 1029 = .ok (.iload 4, 2) := by decide +kernel
theorem d_La_law_1031 : decode c_La_law 1031 = .ok (.iconst 2, 1) := by decide +kernel
theorem d_La_law_1032 : decode c_La_law 1032 = .ok (.iadd, 1) := by decide +kernel
theorem d_La_law_1033 : decode c_La_law 1033 = .ok (.iaload, 1) := by decide +kernel
theorem d_La_law_1034 : decode c_La_law 1034 = .ok (.invokevirtual 134, 3) := by decide +kernel
theorem d_La_law_1037 : decode c_La_law 1037 = .ok (.istore 6, 2) := by decide +kernel
theorem d_La_law_1039 : decode c_La_law 1039 = .ok (.aload_n 2, 1) := by decide +kernel
theorem d_La_law_1040 : decode c_La_law 1040 = .ok (.invokevirtual 79, 3) := by decide +kernel
theorem d_La_law_1043 : decode c_La_law 1043 = .ok (.iload 5, 2) := by decide +kernel
theorem d_La_law_1045 : decode c_La_law 1045 = .ok (.if_icmp .eq 5, 3) := by decide +kernel
theorem d_La_law_1048 : decode c_La_law 1048 = .ok (.iconst 0, 1) := by decide +kernel
theorem d_La_law_1049 : decode c_La_law 1049 = .ok (.ireturn, 1) := by decide +kernel
theorem d_La_law_1050 : decode c_La_law 1050 = .ok (.iload 5, 2) := by decide +kernel
theorem d_La_law_1052 : decode c_La_law 1052 = .ok (.ifCond .ne 22, 3) := by decide +kernel
theorem d_La_law_1055 : decode c_La_law 1055 = .ok (.aload_n 3, 1) := by decide +kernel
theorem d_La_law_1056 : decode c_La_law 1056 = .ok (.iconst 0, 1) := by decide +kernel
theorem d_La_law_1057 : decode c_La_law 1057 = .ok (.laload, 1) := by decide +kernel
theorem d_La_law_1058 : decode c_La_law 1058 = .ok (.iload 6, 2) := by decide +kernel
theorem d_La_law_1060 : decode c_La_law 1060 = .ok (.ifCond .eq 7, 3) := by decide +kernel
theorem d_La_law_1063 : decode c_La_law 1063 = .ok (.lconst 1, 1) := by decide +kernel
theorem d_La_law_1064 : decode c_La_law 1064 = .ok (.goto 4, 3) := by decide +kernel
theorem d_La_law_1067 : decode c_La_law 1067 = .ok (.lconst 0, 1) := by decide +kernel
theorem d_La_law_1068 : decode c_La_law 1068 = .ok (.lcmp, 1) := by decide +kernel
theorem d_La_law_1069 : decode c_La_law 1069 = .ok (.ifCond .eq 5, 3) := by decide +kernel
theorem d_La_law_1072 : decode c_La_law 1072 = .ok (.iconst 0, 1) := by decide +kernel
theorem d_La_law_1073 : decode c_La_law 1073 = .ok (.ireturn, 1) := by decide +kernel
theorem d_La_law_1074 : decode c_La_law 1074 = .ok (.goto 220, 3) := by decide +kernel
theorem d_La_law_1077 : decode c_La_law 1077 = .ok (.aload_n 1, 1) := by decide +kernel
theorem d_La_law_1078 : decode c_La_law 1078 = .ok (.aload_n 0, 1) := by decide +kernel
theorem d_La_law_1079 : decode c_La_law 1079 = .ok (.iload 4, 2) := by decide +kernel
theorem d_La_law_1081 : decode c_La_law 1081 = .ok (.iconst 1, 1) := by decide +kernel
theorem d_La_law_1082 : decode c_La_law 1082 = .ok (.iadd, 1) := by decide +kernel
theorem d_La_law_1083 : decode c_La_law 1083 = .ok (.iaload, 1) := by decide +kernel
theorem d_La_law_1084 : decode c_La_law 1084 = .ok (.aload_n 0, 1) := by decide +kernel
theorem d_La_law_1085 : decode c_La_law 1085 = .ok (.iload 4, 2) := by decide +kernel
theorem d_La_law_1087 : decode c_La_law 1087 = .ok (.iconst 2, 1) := by decide +kernel
theorem d_La_law_1088 : decode c_La_law 1088 = .ok (.iadd, 1) := by decide +kernel
theorem d_La_law_1089 : decode c_La_law 1089 = .ok (.iaload, 1) := by decide +kernel
theorem d_La_law_1090 : decode c_La_law 1090 = .ok (.aload_n 3, 1) := by decide +kernel
theorem d_La_law_1091 : decode c_La_law 1091 = .ok (.invokestatic 135, 3) := by decide +kernel
theorem d_La_law_1094 : decode c_La_law 1094 = .ok (.istore 5, 2) := by decide +kernel
theorem d_La_law_1096 : decode c_La_law 1096 = .ok (.aload_n 2, 1) := by decide +kernel
theorem d_La_law_1097 : decode c_La_law 1097 = .ok (.aload_n 0, 1) := by decide +kernel
theorem d_La_law_1098 : decode c_La_law 1098 = .ok (.iload 4, 2) := by decide +kernel
theorem d_La_law_1100 : decode c_La_law 1100 = .ok (.iconst 1, 1) := by decide +kernel
theorem d_La_law_1101 : decode c_La_law 1101 = .ok (.iadd, 1) := by decide +kernel
theorem d_La_law_1102 : decode c_La_law 1102 = .ok (.iaload, 1) := by decide +kernel
theorem d_La_law_1103 : decode c_La_law 1103 = .ok (.aload_n 0, 1) := by decide +kernel
theorem d_La_law_1104 : decode c_La_law 1104 = .ok (.iload 4, 2) := by decide +kernel
theorem d_La_law_1106 : decode c_La_law 1106 = .ok (.iconst 2, 1) := by decide +kernel
theorem d_La_law_1107 : decode c_La_law 1107 = .ok (.iadd, 1) := by decide +kernel
theorem d_La_law_1108 : decode c_La_law 1108 = .ok (.iaload, 1) := by decide +kernel
theorem d_La_law_1109 : decode c_La_law 1109 = .ok (.invokevirtual 137, 3) := by decide +kernel
theorem d_La_law_1112 : decode c_La_law 1112 = .ok (.istore 6, 2) := by decide +kernel
theorem d_La_law_1114 : decode c_La_law 1114 = .ok (.aload_n 2, 1) := by decide +kernel
theorem d_La_law_1115 : decode c_La_law 1115 = .ok (.invokevirtual 79, 3) := by decide +kernel
theorem d_La_law_1118 : decode c_La_law 1118 = .ok (.iload 5, 2) := by decide +kernel
theorem d_La_law_1120 : decode c_La_law 1120 = .ok (.if_icmp .eq 5, 3) := by decide +kernel
theorem d_La_law_1123 : decode c_La_law 1123 = .ok (.iconst 0, 1) := by decide +kernel
theorem d_La_law_1124 : decode c_La_law 1124 = .ok (.ireturn, 1) := by decide +kernel
theorem d_La_law_1125 : decode c_La_law 1125 = .ok (.iload 5, 2) := by decide +kernel
theorem d_La_law_1127 : decode c_La_law 1127 = .ok (.ifCond .ne 15, 3) := by decide +kernel
theorem d_La_law_1130 : decode c_La_law 1130 = .ok (.aload_n 3, 1) := by decide +kernel
theorem d_La_law_1131 : decode c_La_law 1131 = .ok (.iconst 0, 1) := by decide +kernel
theorem d_La_law_1132 : decode c_La_law 1132 = .ok (.laload, 1) := by decide +kernel
theorem d_La_law_1133 : decode c_La_law 1133 = .ok (.iload 6, 2) := by decide +kernel
theorem d_La_law_1135 : decode c_La_law 1135 = .ok (.i2l, 1) := by decide +kernel
theorem d_La_law_1136 : decode c_La_law 1136 = .ok (.lcmp, 1) := by decide +kernel
theorem d_La_law_1137 : decode c_La_law 1137 = .ok (.ifCond .eq 5, 3) := by decide +kernel
theorem d_La_law_1140 : decode c_La_law 1140 = .ok (.iconst 0, 1) := by decide +kernel
theorem d_La_law_1141 : decode c_La_law 1141 = .ok (.ireturn, 1) := by decide +kernel
theorem d_La_law_1142 : decode c_La_law 1142 = .ok (.goto 152, 3) := by decide +kernel
theorem d_La_law_1145 : decode c_La_law 1145 = .ok (.aload_n 1, 1) := by decide +kernel
theorem d_La_law_1146 : decode c_La_law 1146 = .ok (.aload_n 0, 1) := by decide +kernel
theorem d_La_law_1147 : decode c_La_law 1147 = .ok (.iload 4, 2) := by decide +kernel
theorem d_La_law_1149 : decode c_La_law 1149 = .ok (.iconst 1, 1) := by decide +kernel
theorem d_La_law_1150 : decode c_La_law 1150 = .ok (.iadd, 1) := by decide +kernel
theorem d_La_law_1151 : decode c_La_law 1151 = .ok (.iaload, 1) := by decide +kernel
theorem d_La_law_1152 : decode c_La_law 1152 = .ok (.aload_n 0, 1) := by decide +kernel
theorem d_La_law_1153 : decode c_La_law 1153 = .ok (.iload 4, 2) := by decide +kernel
theorem d_La_law_1155 : decode c_La_law 1155 = .ok (.iconst 2, 1) := by decide +kernel
theorem d_La_law_1156 : decode c_La_law 1156 = .ok (.iadd, 1) := by decide +kernel
theorem d_La_law_1157 : decode c_La_law 1157 = .ok (.iaload, 1) := by decide +kernel
theorem d_La_law_1158 : decode c_La_law 1158 = .ok (.aload_n 3, 1) := by decide +kernel
theorem d_La_law_1159 : decode c_La_law 1159 = .ok (.invokestatic 138, 3) := by decide +kernel
theorem d_La_law_1162 : decode c_La_law 1162 = .ok (.istore 5, 2) := by decide +kernel
theorem d_La_law_1164 : decode c_La_law 1164 = .ok (.aload_n 2, 1) := by decide +kernel
theorem d_La_law_1165 : decode c_La_law 1165 = .ok (.aload_n 0, 1) := by decide +kernel
theorem d_La_law_1166 : decode c_La_law 1166 = .ok (.iload 4, 2) := by decide +kernel
theorem d_La_law_1168 : decode c_La_law 1168 = .ok (.iconst 1, 1) := by decide +kernel
theorem d_La_law_1169 : decode c_La_law 1169 = .ok (.iadd, 1) := by decide +kernel
theorem d_La_law_1170 : decode c_La_law 1170 = .ok (.iaload, 1) := by decide +kernel
theorem d_La_law_1171 : decode c_La_law 1171 = .ok (.aload_n 0, 1) := by decide +kernel
theorem d_La_law_1172 : decode c_La_law 1172 = .ok (.iload 4, 2) := by decide +kernel
theorem d_La_law_1174 : decode c_La_law 1174 = .ok (.iconst 2, 1) := by decide +kernel
theorem d_La_law_1175 : decode c_La_law 1175 = .ok (.iadd, 1) := by decide +kernel
theorem d_La_law_1176 : decode c_La_law 1176 = .ok (.iaload, 1) := by decide +kernel
theorem d_La_law_1177 : decode c_La_law 1177 = .ok (.invokevirtual 140, 3) := by decide +kernel
theorem d_La_law_1180 : decode c_La_law 1180 = .ok (.istore 6, 2) := by decide +kernel
theorem d_La_law_1182 : decode c_La_law 1182 = .ok (.aload_n 2, 1) := by decide +kernel
theorem d_La_law_1183 : decode c_La_law 1183 = .ok (.invokevirtual 79, 3) := by decide +kernel
theorem d_La_law_1186 : decode c_La_law 1186 = .ok (.iload 5, 2) := by decide +kernel
theorem d_La_law_1188 : decode c_La_law 1188 = .ok (.if_icmp .eq 5, 3) := by decide +kernel
theorem d_La_law_1191 : decode c_La_law 1191 = .ok (.iconst 0, 1) := by decide +kernel
theorem d_La_law_1192 : decode c_La_law 1192 = .ok (.ireturn, 1) := by decide +kernel
theorem d_La_law_1193 : decode c_La_law 1193 = .ok (.iload 5, 2) := by decide +kernel
theorem d_La_law_1195 : decode c_La_law 1195 = .ok (.ifCond .ne 15, 3) := by decide +kernel
theorem d_La_law_1198 : decode c_La_law 1198 = .ok (.aload_n 3, 1) := by decide +kernel
theorem d_La_law_1199 : decode c_La_law 1199 = .ok (.iconst 0, 1) := by decide +kernel
theorem d_La_law_1200 : decode c_La_law 1200 = .ok (.laload, 1) := by decide +kernel
theorem d_La_law_1201 : decode c_La_law 1201 = .ok (.iload 6, 2) := by decide +kernel
theorem d_La_law_1203 : decode c_La_law 1203 = .ok (.i2l, 1) := by decide +kernel
theorem d_La_law_1204 : decode c_La_law 1204 = .ok (.lcmp, 1) := by decide +kernel
theorem d_La_law_1205 : decode c_La_law 1205 = .ok (.ifCond .eq 5, 3) := by decide +kernel
theorem d_La_law_1208 : decode c_La_law 1208 = .ok (.iconst 0, 1) := by decide +kernel
theorem d_La_law_1209 : decode c_La_law 1209 = .ok (.ireturn, 1) := by decide +kernel
theorem d_La_law_1210 : decode c_La_law 1210 = .ok (.goto 84, 3) := by decide +kernel
theorem d_La_law_1213 : decode c_La_law 1213 = .ok (.aload_n 1, 1) := by decide +kernel
theorem d_La_law_1214 : decode c_La_law 1214 = .ok (.aload_n 0, 1) := by decide +kernel
theorem d_La_law_1215 : decode c_La_law 1215 = .ok (.iload 4, 2) := by decide +kernel
theorem d_La_law_1217 : decode c_La_law 1217 = .ok (.iconst 1, 1) := by decide +kernel
theorem d_La_law_1218 : decode c_La_law 1218 = .ok (.iadd, 1) := by decide +kernel
theorem d_La_law_1219 : decode c_La_law 1219 = .ok (.iaload, 1) := by decide +kernel
theorem d_La_law_1220 : decode c_La_law 1220 = .ok (.aload_n 3, 1) := by decide +kernel
theorem d_La_law_1221 : decode c_La_law 1221 = .ok (.invokestatic 141, 3) := by decide +kernel
theorem d_La_law_1224 : decode c_La_law 1224 = .ok (.istore 5, 2) := by decide +kernel
theorem d_La_law_1226 : decode c_La_law 1226 = .ok (.aload_n 2, 1) := by decide +kernel
theorem d_La_law_1227 : decode c_La_law 1227 = .ok (.aload_n 0, 1) := by decide +kernel
theorem d_La_law_1228 : decode c_La_law 1228 = .ok (.iload 4, 2) := by decide +kernel
theorem d_La_law_1230 : decode c_La_law 1230 = .ok (.iconst 1, 1) := by decide +kernel
theorem d_La_law_1231 : decode c_La_law 1231 = .ok (.iadd, 1) := by decide +kernel
theorem d_La_law_1232 : decode c_La_law 1232 = .ok (.iaload, 1) := by decide +kernel
theorem d_La_law_1233 : decode c_La_law 1233 = .ok (.invokevirtual 143, 3) := by decide +kernel
theorem d_La_law_1236 : decode c_La_law 1236 = .ok (.istore 6, 2) := by decide +kernel
theorem d_La_law_1238 : decode c_La_law 1238 = .ok (.aload_n 2, 1) := by decide +kernel
theorem d_La_law_1239 : decode c_La_law 1239 = .ok (.invokevirtual 79, 3) := by decide +kernel
theorem d_La_law_1242 : decode c_La_law 1242 = .ok (.iload 5, 2) := by decide +kernel
theorem d_La_law_1244 : decode c_La_law 1244 = .ok (.if_icmp .eq 5, 3) := by decide +kernel
theorem d_La_law_1247 : decode c_La_law 1247 = .ok (.iconst 0, 1) := by decide +kernel
theorem d_La_law_1248 : decode c_La_law 1248 = .ok (.ireturn, 1) := by decide +kernel
theorem d_La_law_1249 : decode c_La_law 1249 = .ok (.iload 5, 2) := by decide +kernel
theorem d_La_law_1251 : decode c_La_law 1251 = .ok (.ifCond .ne 15, 3) := by decide +kernel
theorem d_La_law_1254 : decode c_La_law 1254 = .ok (.aload_n 3, 1) := by decide +kernel
theorem d_La_law_1255 : decode c_La_law 1255 = .ok (.iconst 0, 1) := by decide +kernel
theorem d_La_law_1256 : decode c_La_law 1256 = .ok (.laload, 1) := by decide +kernel
theorem d_La_law_1257 : decode c_La_law 1257 = .ok (.iload 6, 2) := by decide +kernel
theorem d_La_law_1259 : decode c_La_law 1259 = .ok (.i2l, 1) := by decide +kernel
theorem d_La_law_1260 : decode c_La_law 1260 = .ok (.lcmp, 1) := by decide +kernel
theorem d_La_law_1261 : decode c_La_law 1261 = .ok (.ifCond .eq 5, 3) := by decide +kernel
theorem d_La_law_1264 : decode c_La_law 1264 = .ok (.iconst 0, 1) := by decide +kernel
theorem d_La_law_1265 : decode c_La_law 1265 = .ok (.ireturn, 1) := by decide +kernel
theorem d_La_law_1266 : decode c_La_law 1266 = .ok (.goto 28, 3) := by decide +kernel
theorem d_La_law_1269 : decode c_La_law 1269 = .ok (.aload_n 1, 1) := by decide +kernel
theorem d_La_law_1270 : decode c_La_law 1270 = .ok (.aload_n 0, 1) := by decide +kernel
theorem d_La_law_1271 : decode c_La_law 1271 = .ok (.iload 4, 2) := by decide +kernel
theorem d_La_law_1273 : decode c_La_law 1273 = .ok (.iconst 1, 1) := by decide +kernel
theorem d_La_law_1274 : decode c_La_law 1274 = .ok (.iadd, 1) := by decide +kernel
theorem d_La_law_1275 : decode c_La_law 1275 = .ok (.iaload, 1) := by decide +kernel
theorem d_La_law_1276 : decode c_La_law 1276 = .ok (.invokevirtual 144, 3) := by decide +kernel
theorem d_La_law_1279 : decode c_La_law 1279 = .ok (.aload_n 2, 1) := by decide +kernel
theorem d_La_law_1280 : decode c_La_law 1280 = .ok (.aload_n 0, 1) := by decide +kernel
theorem d_La_law_1281 : decode c_La_law 1281 = .ok (.iload 4, 2) := by decide +kernel
theorem d_La_law_1283 : decode c_La_law 1283 = .ok (.iconst 1, 1) := by decide +kernel
theorem d_La_law_1284 : decode c_La_law 1284 = .ok (.iadd, 1) := by decide +kernel
theorem d_La_law_1285 : decode c_La_law 1285 = .ok (.iaload, 1) := by decide +kernel
theorem d_La_law_1286 : decode c_La_law 1286 = .ok (.invokevirtual 147, 3) := by decide +kernel
theorem d_La_law_1289 : decode c_La_law 1289 = .ok (.if_icmp .eq 5, 3) := by decide +kernel
theorem d_La_law_1292 : decode c_La_law 1292 = .ok (.iconst 0, 1) := by decide +kernel
theorem d_La_law_1293 : decode c_La_law 1293 = .ok (.ireturn, 1) := by decide +kernel
theorem d_La_law_1294 : decode c_La_law 1294 = .ok (.iinc 4 4, 3) := by decide +kernel
theorem d_La_law_1297 : decode c_La_law 1297 = .ok (.goto (-1274), 3) := by decide +kernel
theorem d_La_law_1300 : decode c_La_law 1300 = .ok (.iconst 1, 1) := by decide +kernel
theorem d_La_law_1301 : decode c_La_law 1301 = .ok (.ireturn, 1) := by decide +kernel
