/-! decode rows, laid by a program -/
theorem d_Md_init_0 : decode c_Md_init 0 = .ok (.aload_n 0, 1) := by decide +kernel
theorem d_Md_init_1 : decode c_Md_init 1 = .ok (.invokespecial 1, 3) := by decide +kernel
theorem d_Md_init_4 : decode c_Md_init 4 = .ok (.aload_n 0, 1) := by decide +kernel
theorem d_Md_init_5 : decode c_Md_init 5 = .ok (.sipush 300, 3) := by decide +kernel
theorem d_Md_init_8 : decode c_Md_init 8 = .ok (.newarray .int, 2) := by decide +kernel
theorem d_Md_init_10 : decode c_Md_init 10 = .ok (.putfield 7, 3) := by decide +kernel
theorem d_Md_init_13 : decode c_Md_init 13 = .ok (.aload_n 0, 1) := by decide +kernel
theorem d_Md_init_14 : decode c_Md_init 14 = .ok (.sipush 300, 3) := by decide +kernel
theorem d_Md_init_17 : decode c_Md_init 17 = .ok (.newarray .int, 2) := by decide +kernel
theorem d_Md_init_19 : decode c_Md_init 19 = .ok (.putfield 13, 3) := by decide +kernel
theorem d_Md_init_22 : decode c_Md_init 22 = .ok (.aload_n 0, 1) := by decide +kernel
theorem d_Md_init_23 : decode c_Md_init 23 = .ok (.sipush 300, 3) := by decide +kernel
theorem d_Md_init_26 : decode c_Md_init 26 = .ok (.newarray .int, 2) := by decide +kernel
theorem d_Md_init_28 : decode c_Md_init 28 = .ok (.putfield 16, 3) := by decide +kernel
theorem d_Md_init_31 : decode c_Md_init 31 = .ok (.aload_n 0, 1) := by decide +kernel
theorem d_Md_init_32 : decode c_Md_init 32 = .ok (.sipush 300, 3) := by decide +kernel
theorem d_Md_init_35 : decode c_Md_init 35 = .ok (.newarray .int, 2) := by decide +kernel
theorem d_Md_init_37 : decode c_Md_init 37 = .ok (.putfield 19, 3) := by decide +kernel
theorem d_Md_init_40 : decode c_Md_init 40 = .ok (.aload_n 0, 1) := by decide +kernel
theorem d_Md_init_41 : decode c_Md_init 41 = .ok (.sipush 300, 3) := by decide +kernel
theorem d_Md_init_44 : decode c_Md_init 44 = .ok (.newarray .int, 2) := by decide +kernel
theorem d_Md_init_46 : decode c_Md_init 46 = .ok (.putfield 22, 3) := by decide +kernel
theorem d_Md_init_49 : decode c_Md_init 49 = .ok (.aload_n 0, 1) := by decide +kernel
theorem d_Md_init_50 : decode c_Md_init 50 = .ok (.sipush 300, 3) := by decide +kernel
theorem d_Md_init_53 : decode c_Md_init 53 = .ok (.newarray .int, 2) := by decide +kernel
theorem d_Md_init_55 : decode c_Md_init 55 = .ok (.putfield 25, 3) := by decide +kernel
theorem d_Md_init_58 : decode c_Md_init 58 = .ok (.aload_n 0, 1) := by decide +kernel
theorem d_Md_init_59 : decode c_Md_init 59 = .ok (.sipush 300, 3) := by decide +kernel
theorem d_Md_init_62 : decode c_Md_init 62 = .ok (.newarray .int, 2) := by decide +kernel
theorem d_Md_init_64 : decode c_Md_init 64 = .ok (.putfield 28, 3) := by decide +kernel
theorem d_Md_init_67 : decode c_Md_init 67 = .ok (.aload_n 0, 1) := by decide +kernel
theorem d_Md_init_68 : decode c_Md_init 68 = .ok (.bipush 16, 2) := by decide +kernel
theorem d_Md_init_70 : decode c_Md_init 70 = .ok (.newarray .int, 2) := by decide +kernel
theorem d_Md_init_72 : decode c_Md_init 72 = .ok (.putfield 31, 3) := by decide +kernel
theorem d_Md_init_75 : decode c_Md_init 75 = .ok (.aload_n 0, 1) := by decide +kernel
theorem d_Md_init_76 : decode c_Md_init 76 = .ok (.bipush 16, 2) := by decide +kernel
theorem d_Md_init_78 : decode c_Md_init 78 = .ok (.newarray .int, 2) := by decide +kernel
theorem d_Md_init_80 : decode c_Md_init 80 = .ok (.putfield 34, 3) := by decide +kernel
theorem d_Md_init_83 : decode c_Md_init 83 = .ok (.aload_n 0, 1) := by decide +kernel
theorem d_Md_init_84 : decode c_Md_init 84 = .ok (.bipush 16, 2) := by decide +kernel
theorem d_Md_init_86 : decode c_Md_init 86 = .ok (.newarray .int, 2) := by decide +kernel
theorem d_Md_init_88 : decode c_Md_init 88 = .ok (.putfield 37, 3) := by decide +kernel
theorem d_Md_init_91 : decode c_Md_init 91 = .ok (.aload_n 0, 1) := by decide +kernel
theorem d_Md_init_92 : decode c_Md_init 92 = .ok (.bipush 16, 2) := by decide +kernel
theorem d_Md_init_94 : decode c_Md_init 94 = .ok (.newarray .boolean, 2) := by decide +kernel
theorem d_Md_init_96 : decode c_Md_init 96 = .ok (.putfield 40, 3) := by decide +kernel
theorem d_Md_init_99 : decode c_Md_init 99 = .ok (.aload_n 0, 1) := by decide +kernel
theorem d_Md_init_100 : decode c_Md_init 100 = .ok (.bipush 10, 2) := by decide +kernel
theorem d_Md_init_102 : decode c_Md_init 102 = .ok (.newarray .int, 2) := by decide +kernel
theorem d_Md_init_104 : decode c_Md_init 104 = .ok (.putfield 44, 3) := by decide +kernel
theorem d_Md_init_107 : decode c_Md_init 107 = .ok (.aload_n 0, 1) := by decide +kernel
theorem d_Md_init_108 : decode c_Md_init 108 = .ok (.sipush 800, 3) := by decide +kernel
theorem d_Md_init_111 : decode c_Md_init 111 = .ok (.newarray .int, 2) := by decide +kernel
theorem d_Md_init_113 : decode c_Md_init 113 = .ok (.putfield 47, 3) := by decide +kernel
theorem d_Md_init_116 : decode c_Md_init 116 = .ok (.aload_n 0, 1) := by decide +kernel
theorem d_Md_init_117 : decode c_Md_init 117 = .ok (.sipush 800, 3) := by decide +kernel
theorem d_Md_init_120 : decode c_Md_init 120 = .ok (.newarray .int, 2) := by decide +kernel
theorem d_Md_init_122 : decode c_Md_init 122 = .ok (.putfield 50, 3) := by decide +kernel
theorem d_Md_init_125 : decode c_Md_init 125 = .ok (.aload_n 0, 1) := by decide +kernel
theorem d_Md_init_126 : decode c_Md_init 126 = .ok (.sipush 1001, 3) := by decide +kernel
theorem d_Md_init_129 : decode c_Md_init 129 = .ok (.newarray .int, 2) := by decide +kernel
theorem d_Md_init_131 : decode c_Md_init 131 = .ok (.putfield 53, 3) := by decide +kernel
theorem d_Md_init_134 : decode c_Md_init 134 = .ok (.aload_n 0, 1) := by decide +kernel
theorem d_Md_init_135 : decode c_Md_init 135 = .ok (.sipush 1001, 3) := by decide +kernel
theorem d_Md_init_138 : decode c_Md_init 138 = .ok (.newarray .int, 2) := by decide +kernel
theorem d_Md_init_140 : decode c_Md_init 140 = .ok (.putfield 56, 3) := by decide +kernel
theorem d_Md_init_143 : decode c_Md_init 143 = .ok (.aload_n 0, 1) := by decide +kernel
theorem d_Md_init_144 : decode c_Md_init 144 = .ok (.sipush 1001, 3) := by decide +kernel
theorem d_Md_init_147 : decode c_Md_init 147 = .ok (.newarray .int, 2) := by decide +kernel
theorem d_Md_init_149 : decode c_Md_init 149 = .ok (.putfield 59, 3) := by decide +kernel
theorem d_Md_init_152 : decode c_Md_init 152 = .ok (.aload_n 0, 1) := by decide +kernel
theorem d_Md_init_153 : decode c_Md_init 153 = .ok (.sipush 1100, 3) := by decide +kernel
theorem d_Md_init_156 : decode c_Md_init 156 = .ok (.newarray .int, 2) := by decide +kernel
theorem d_Md_init_158 : decode c_Md_init 158 = .ok (.putfield 62, 3) := by decide +kernel
theorem d_Md_init_161 : decode c_Md_init 161 = .ok (.aload_n 0, 1) := by decide +kernel
theorem d_Md_init_162 : decode c_Md_init 162 = .ok (.bipush 6, 2) := by decide +kernel
theorem d_Md_init_164 : decode c_Md_init 164 = .ok (.newarray .int, 2) := by decide +kernel
theorem d_Md_init_166 : decode c_Md_init 166 = .ok (.putfield 65, 3) := by decide +kernel
theorem d_Md_init_169 : decode c_Md_init 169 = .ok (.aload_n 0, 1) := by decide +kernel
theorem d_Md_init_170 : decode c_Md_init 170 = .ok (.sipush 1100, 3) := by decide +kernel
theorem d_Md_init_173 : decode c_Md_init 173 = .ok (.newarray .int, 2) := by decide +kernel
theorem d_Md_init_175 : decode c_Md_init 175 = .ok (.putfield 68, 3) := by decide +kernel
theorem d_Md_init_178 : decode c_Md_init 178 = .ok (.aload_n 0, 1) := by decide +kernel
theorem d_Md_init_179 : decode c_Md_init 179 = .ok (.bipush 6, 2) := by decide +kernel
theorem d_Md_init_181 : decode c_Md_init 181 = .ok (.newarray .int, 2) := by decide +kernel
theorem d_Md_init_183 : decode c_Md_init 183 = .ok (.putfield 71, 3) := by decide +kernel
theorem d_Md_init_186 : decode c_Md_init 186 = .ok (.aload_n 0, 1) := by decide +kernel
theorem d_Md_init_187 : decode c_Md_init 187 = .ok (.bipush 6, 2) := by decide +kernel
theorem d_Md_init_189 : decode c_Md_init 189 = .ok (.newarray .int, 2) := by decide +kernel
theorem d_Md_init_191 : decode c_Md_init 191 = .ok (.putfield 74, 3) := by decide +kernel
theorem d_Md_init_194 : decode c_Md_init 194 = .ok (.aload_n 0, 1) := by decide +kernel
theorem d_Md_init_195 : decode c_Md_init 195 = .ok (.sipush 1001, 3) := by decide +kernel
theorem d_Md_init_198 : decode c_Md_init 198 = .ok (.newarray .boolean, 2) := by decide +kernel
theorem d_Md_init_200 : decode c_Md_init 200 = .ok (.putfield 77, 3) := by decide +kernel
theorem d_Md_init_203 : decode c_Md_init 203 = .ok (.aload_n 0, 1) := by decide +kernel
theorem d_Md_init_204 : decode c_Md_init 204 = .ok (.sipush 1002, 3) := by decide +kernel
theorem d_Md_init_207 : decode c_Md_init 207 = .ok (.newarray .int, 2) := by decide +kernel
theorem d_Md_init_209 : decode c_Md_init 209 = .ok (.putfield 80, 3) := by decide +kernel
theorem d_Md_init_212 : decode c_Md_init 212 = .ok (.aload_n 0, 1) := by decide +kernel
theorem d_Md_init_213 : decode c_Md_init 213 = .ok (.bipush 16, 2) := by decide +kernel
theorem d_Md_init_215 : decode c_Md_init 215 = .ok (.newarray .boolean, 2) := by decide +kernel
theorem d_Md_init_217 : decode c_Md_init 217 = .ok (.putfield 83, 3) := by decide +kernel
theorem d_Md_init_220 : decode c_Md_init 220 = .ok (.iconst 0, 1) := by decide +kernel
theorem d_Md_init_221 : decode c_Md_init 221 = .ok (.istore_n 1, 1) := by decide +kernel
theorem d_Md_init_222 : decode c_Md_init 222 = .ok (.iload_n 1, 1) := by decide +kernel
theorem d_Md_init_223 : decode c_Md_init 223 = .ok (.bipush 10, 2) := by decide +kernel
theorem d_Md_init_225 : decode c_Md_init 225 = .ok (.if_icmp .ge 16, 3) := by decide +kernel
theorem d_Md_init_228 : decode c_Md_init 228 = .ok (.aload_n 0, 1) := by decide +kernel
theorem d_Md_init_229 : decode c_Md_init 229 = .ok (.getfield 44, 3) := by decide +kernel
theorem d_Md_init_232 : decode c_Md_init 232 = .ok (.iload_n 1, 1) := by decide +kernel
theorem d_Md_init_233 : decode c_Md_init 233 = .ok (.iconst 2, 1) := by decide +kernel
theorem d_Md_init_234 : decode c_Md_init 234 = .ok (.iastore, 1) := by decide +kernel
theorem d_Md_init_235 : decode c_Md_init 235 = .ok (.iinc 1 1, 3) := by decide +kernel
theorem d_Md_init_238 : decode c_Md_init 238 = .ok (.goto (-16), 3) := by decide +kernel
theorem d_Md_init_241 : decode c_Md_init 241 = .ok (.return_, 1) := by decide +kernel
theorem d_Md_thrown_0 : decode c_Md_thrown 0 = .ok (.aload_n 0, 1) := by decide +kernel
theorem d_Md_thrown_1 : decode c_Md_thrown 1 = .ok (.getfield 86, 3) := by decide +kernel
theorem d_Md_thrown_4 : decode c_Md_thrown 4 = .ok (.ireturn, 1) := by decide +kernel
theorem d_Md_leaf_0 : decode c_Md_leaf 0 = .ok (.aload_n 0, 1) := by decide +kernel
theorem d_Md_leaf_1 : decode c_Md_leaf 1 = .ok (.iload_n 1, 1) := by decide +kernel
theorem d_Md_leaf_2 : decode c_Md_leaf 2 = .ok (.ifCond .lt 9, 3) := by decide +kernel
theorem d_Md_leaf_5 : decode c_Md_leaf 5 = .ok (.iload_n 1, 1) := by decide +kernel
theorem d_Md_leaf_6 : decode c_Md_leaf 6 = .ok (.bipush 19, 2) := by decide +kernel
theorem d_Md_leaf_8 : decode c_Md_leaf 8 = .ok (.if_icmp .le 7, 3) := by decide +kernel
theorem d_Md_leaf_11 : decode c_Md_leaf 11 = .ok (.iconst 1, 1) := by decide +kernel
theorem d_Md_leaf_12 : decode c_Md_leaf 12 = .ok (.goto 4, 3) := by decide +kernel
theorem d_Md_leaf_15 : decode c_Md_leaf 15 = .ok (.iconst 0, 1) := by decide +kernel
theorem d_Md_leaf_16 : decode c_Md_leaf 16 = .ok (.putfield 86, 3) := by decide +kernel
theorem d_Md_leaf_19 : decode c_Md_leaf 19 = .ok (.aload_n 0, 1) := by decide +kernel
theorem d_Md_leaf_20 : decode c_Md_leaf 20 = .ok (.getfield 86, 3) := by decide +kernel
theorem d_Md_leaf_23 : decode c_Md_leaf 23 = .ok (.ifCond .eq 7, 3) := by decide +kernel
theorem d_Md_leaf_26 : decode c_Md_leaf 26 = .ok (.iconst 0, 1) := by decide +kernel
theorem d_Md_leaf_27 : decode c_Md_leaf 27 = .ok (.goto 14, 3) := by decide +kernel
theorem d_Md_leaf_30 : decode c_Md_leaf 30 = .ok (.aload_n 0, 1) := by decide +kernel
theorem d_Md_leaf_31 : decode c_Md_leaf 31 = .ok (.bipush 100, 2) := by decide +kernel
theorem d_Md_leaf_33 : decode c_Md_leaf 33 = .ok (.iload_n 1, 1) := by decide +kernel
theorem d_Md_leaf_34 : decode c_Md_leaf 34 = .ok (.iadd, 1) := by decide +kernel
theorem d_Md_leaf_35 : decode c_Md_leaf 35 = .ok (.iconst (-1), 1) := by decide +kernel
theorem d_Md_leaf_36 : decode c_Md_leaf 36 = .ok (.iconst (-1), 1) := by decide +kernel
theorem d_Md_leaf_37 : decode c_Md_leaf 37 = .ok (.iconst 2, 1) := by decide +kernel
theorem d_Md_leaf_38 : decode c_Md_leaf 38 = .ok (.invokevirtual 105, 3) := by decide +kernel
theorem d_Md_leaf_41 : decode c_Md_leaf 41 = .ok (.ireturn, 1) := by decide +kernel
theorem d_Md_ask_0 : decode c_Md_ask 0 = .ok (.aload_n 0, 1) := by decide +kernel
theorem d_Md_ask_1 : decode c_Md_ask 1 = .ok (.iconst 0, 1) := by decide +kernel
theorem d_Md_ask_2 : decode c_Md_ask 2 = .ok (.putfield 97, 3) := by decide +kernel
theorem d_Md_ask_5 : decode c_Md_ask 5 = .ok (.aload_n 0, 1) := by decide +kernel
theorem d_Md_ask_6 : decode c_Md_ask 6 = .ok (.iload_n 1, 1) := by decide +kernel
theorem d_Md_ask_7 : decode c_Md_ask 7 = .ok (.iload_n 2, 1) := by decide +kernel
theorem d_Md_ask_8 : decode c_Md_ask 8 = .ok (.iload_n 3, 1) := by decide +kernel
theorem d_Md_ask_9 : decode c_Md_ask 9 = .ok (.invokevirtual 101, 3) := by decide +kernel
theorem d_Md_ask_12 : decode c_Md_ask 12 = .ok (.istore 5, 2) := by decide +kernel
theorem d_Md_ask_14 : decode c_Md_ask 14 = .ok (.aload_n 0, 1) := by decide +kernel
theorem d_Md_ask_15 : decode c_Md_ask 15 = .ok (.aload_n 0, 1) := by decide +kernel
theorem d_Md_ask_16 : decode c_Md_ask 16 = .ok (.getfield 97, 3) := by decide +kernel
theorem d_Md_ask_19 : decode c_Md_ask 19 = .ok (.ifCond .eq 8, 3) := by decide +kernel
theorem d_Md_ask_22 : decode c_Md_ask 22 = .ok (.iload 4, 2) := by decide +kernel
theorem d_Md_ask_24 : decode c_Md_ask 24 = .ok (.goto 4, 3) := by decide +kernel
theorem d_Md_ask_27 : decode c_Md_ask 27 = .ok (.iconst 0, 1) := by decide +kernel
theorem d_Md_ask_28 : decode c_Md_ask 28 = .ok (.putfield 86, 3) := by decide +kernel
theorem d_Md_ask_31 : decode c_Md_ask 31 = .ok (.aload_n 0, 1) := by decide +kernel
theorem d_Md_ask_32 : decode c_Md_ask 32 = .ok (.getfield 97, 3) := by decide +kernel
theorem d_Md_ask_35 : decode c_Md_ask 35 = .ok (.ifCond .eq 7, 3) := by decide +kernel
theorem d_Md_ask_38 : decode c_Md_ask 38 = .ok (.iconst 0, 1) := by decide +kernel
theorem d_Md_ask_39 : decode c_Md_ask 39 = .ok (.goto 5, 3) := by decide +kernel
theorem d_Md_ask_42 : decode c_Md_ask 42 = .ok (.iload 5, 2) := by decide +kernel
theorem d_Md_ask_44 : decode c_Md_ask 44 = .ok (.ireturn, 1) := by decide +kernel
theorem d_Md_tree_0 : decode c_Md_tree 0 = .ok (.iconst 0, 1) := by decide +kernel
theorem d_Md_tree_1 : decode c_Md_tree 1 = .ok (.istore 4, 2) := by decide +kernel
theorem d_Md_tree_3 : decode c_Md_tree 3 = .ok (.iload 4, 2) := by decide +kernel
theorem d_Md_tree_5 : decode c_Md_tree 5 = .ok (.aload_n 0, 1) := by decide +kernel
theorem d_Md_tree_6 : decode c_Md_tree 6 = .ok (.getfield 90, 3) := by decide +kernel
theorem d_Md_tree_9 : decode c_Md_tree 9 = .ok (.if_icmp .ge 45, 3) := by decide +kernel
theorem d_Md_tree_12 : decode c_Md_tree 12 = .ok (.aload_n 0, 1) := by decide +kernel
theorem d_Md_tree_13 : decode c_Md_tree 13 = .ok (.getfield 7, 3) := by decide +kernel
theorem d_Md_tree_16 : decode c_Md_tree 16 = .ok (.iload 4, 2) := by decide +kernel
theorem d_Md_tree_18 : decode c_Md_tree 18 = .ok (.iaload, 1) := by decide +kernel
theorem d_Md_tree_19 : decode c_Md_tree 19 = .ok (.iload_n 1, 1) := by decide +kernel
theorem d_Md_tree_20 : decode c_Md_tree 20 = .ok (.if_icmp .ne 28, 3) := by decide +kernel
theorem d_Md_tree_23 : decode c_Md_tree 23 = .ok (.aload_n 0, 1) := by decide +kernel
theorem d_Md_tree_24 : decode c_Md_tree 24 = .ok (.getfield 13, 3) := by decide +kernel
theorem d_Md_tree_27 : decode c_Md_tree 27 = .ok (.iload 4, 2) := by decide +kernel
theorem d_Md_tree_29 : decode c_Md_tree 29 = .ok (.iaload, 1) := by decide +kernel
theorem d_Md_tree_30 : decode c_Md_tree 30 = .ok (.iload_n 2, 1) := by decide +kernel
theorem d_Md_tree_31 : decode c_Md_tree 31 = .ok (.if_icmp .ne 17, 3) := by decide +kernel
theorem d_Md_tree_34 : decode c_Md_tree 34 = .ok (.aload_n 0, 1) := by decide +kernel
theorem d_Md_tree_35 : decode c_Md_tree 35 = .ok (.getfield 16, 3) := by decide +kernel
theorem d_Md_tree_38 : decode c_Md_tree 38 = .ok (.iload 4, 2) := by decide +kernel
theorem d_Md_tree_40 : decode c_Md_tree 40 = .ok (.iaload, 1) := by decide +kernel
theorem d_Md_tree_41 : decode c_Md_tree 41 = .ok (.iload_n 3, 1) := by decide +kernel
theorem d_Md_tree_42 : decode c_Md_tree 42 = .ok (.if_icmp .ne 6, 3) := by decide +kernel
theorem d_Md_tree_45 : decode c_Md_tree 45 = .ok (.iload 4, 2) := by decide +kernel
theorem d_Md_tree_47 : decode c_Md_tree 47 = .ok (.ireturn, 1) := by decide +kernel
theorem d_Md_tree_48 : decode c_Md_tree 48 = .ok (.iinc 4 1, 3) := by decide +kernel
theorem d_Md_tree_51 : decode c_Md_tree 51 = .ok (.goto (-48), 3) := by decide +kernel
theorem d_Md_tree_54 : decode c_Md_tree 54 = .ok (.iload_n 1, 1) := by decide +kernel
theorem d_Md_tree_55 : decode c_Md_tree 55 = .ok (.invokestatic 93, 3) := by decide +kernel
theorem d_Md_tree_58 : decode c_Md_tree 58 = .ok (.istore 4, 2) := by decide +kernel
theorem d_Md_tree_60 : decode c_Md_tree 60 = .ok (.iconst 1, 1) := by decide +kernel
theorem d_Md_tree_61 : decode c_Md_tree 61 = .ok (.istore 5, 2) := by decide +kernel
theorem d_Md_tree_63 : decode c_Md_tree 63 = .ok (.iconst 1, 1) := by decide +kernel
theorem d_Md_tree_64 : decode c_Md_tree 64 = .ok (.istore 6, 2) := by decide +kernel
theorem d_Md_tree_66 : decode c_Md_tree 66 = .ok (.iconst 0, 1) := by decide +kernel
theorem d_Md_tree_67 : decode c_Md_tree 67 = .ok (.istore 7, 2) := by decide +kernel
theorem d_Md_tree_69 : decode c_Md_tree 69 = .ok (.iload_n 1, 1) := by decide +kernel
theorem d_Md_tree_70 : decode c_Md_tree 70 = .ok (.sipush 200, 3) := by decide +kernel
theorem d_Md_tree_73 : decode c_Md_tree 73 = .ok (.if_icmp .lt 13, 3) := by decide +kernel
theorem d_Md_tree_76 : decode c_Md_tree 76 = .ok (.iconst 1, 1) := by decide +kernel
theorem d_Md_tree_77 : decode c_Md_tree 77 = .ok (.iload_n 1, 1) := by decide +kernel
theorem d_Md_tree_78 : decode c_Md_tree 78 = .ok (.sipush 200, 3) := by decide +kernel
theorem d_Md_tree_81 : decode c_Md_tree 81 = .ok (.isub, 1) := by decide +kernel
theorem d_Md_tree_82 : decode c_Md_tree 82 = .ok (.ishl, 1) := by decide +kernel
theorem d_Md_tree_83 : decode c_Md_tree 83 = .ok (.goto 4, 3) := by decide +kernel
theorem d_Md_tree_86 : decode c_Md_tree 86 = .ok (.iconst 0, 1) := by decide +kernel
theorem d_Md_tree_87 : decode c_Md_tree 87 = .ok (.istore 8, 2) := by decide +kernel
theorem d_Md_tree_89 : decode c_Md_tree 89 = .ok (.iload 4, 2) := by decide +kernel
theorem d_Md_tree_91 : decode c_Md_tree 91 = .ok (.ifCond .le 135, 3) := by decide +kernel
theorem d_Md_tree_94 : decode c_Md_tree 94 = .ok (.iconst 1, 1) := by decide +kernel
theorem d_Md_tree_95 : decode c_Md_tree 95 = .ok (.iload_n 1, 1) := by decide +kernel
theorem d_Md_tree_96 : decode c_Md_tree 96 = .ok (.iconst 3, 1) := by decide +kernel
theorem d_Md_tree_97 : decode c_Md_tree 97 = .ok (.irem, 1) := by decide +kernel
theorem d_Md_tree_98 : decode c_Md_tree 98 = .ok (.iconst 2, 1) := by decide +kernel
theorem d_Md_tree_99 : decode c_Md_tree 99 = .ok (.if_icmp .ne 7, 3) := by decide +kernel
theorem d_Md_tree_102 : decode c_Md_tree 102 = .ok (.iconst 1, 1) := by decide +kernel
theorem d_Md_tree_103 : decode c_Md_tree 103 = .ok (.goto 4, 3) := by decide +kernel
theorem d_Md_tree_106 : decode c_Md_tree 106 = .ok (.iconst 0, 1) := by decide +kernel
theorem d_Md_tree_107 : decode c_Md_tree 107 = .ok (.iadd, 1) := by decide +kernel
theorem d_Md_tree_108 : decode c_Md_tree 108 = .ok (.aload_n 0, 1) := by decide +kernel
theorem d_Md_tree_109 : decode c_Md_tree 109 = .ok (.getfield 19, 3) := by decide +kernel
theorem d_Md_tree_112 : decode c_Md_tree 112 = .ok (.iload_n 2, 1) := by decide +kernel
theorem d_Md_tree_113 : decode c_Md_tree 113 = .ok (.iaload, 1) := by decide +kernel
theorem d_Md_tree_114 : decode c_Md_tree 114 = .ok (.iadd, 1) := by decide +kernel
theorem d_Md_tree_115 : decode c_Md_tree 115 = .ok (.iload 4, 2) := by decide +kernel
theorem d_Md_tree_117 : decode c_Md_tree 117 = .ok (.iconst 1, 1) := by decide +kernel
theorem d_Md_tree_118 : decode c_Md_tree 118 = .ok (.if_icmp .le 12, 3) := by decide +kernel
theorem d_Md_tree_121 : decode c_Md_tree 121 = .ok (.aload_n 0, 1) := by decide +kernel
theorem d_Md_tree_122 : decode c_Md_tree 122 = .ok (.getfield 19, 3) := by decide +kernel
theorem d_Md_tree_125 : decode c_Md_tree 125 = .ok (.iload_n 3, 1) := by decide +kernel
theorem d_Md_tree_126 : decode c_Md_tree 126 = .ok (.iaload, 1) := by decide +kernel
theorem d_Md_tree_127 : decode c_Md_tree 127 = .ok (.goto 4, 3) := by decide +kernel
theorem d_Md_tree_130 : decode c_Md_tree 130 = .ok (.iconst 0, 1) := by decide +kernel
theorem d_Md_tree_131 : decode c_Md_tree 131 = .ok (.iadd, 1) := by decide +kernel
theorem d_Md_tree_132 : decode c_Md_tree 132 = .ok (.istore 5, 2) := by decide +kernel
theorem d_Md_tree_134 : decode c_Md_tree 134 = .ok (.iconst 1, 1) := by decide +kernel
theorem d_Md_tree_135 : decode c_Md_tree 135 = .ok (.aload_n 0, 1) := by decide +kernel
theorem d_Md_tree_136 : decode c_Md_tree 136 = .ok (.getfield 22, 3) := by decide +kernel
theorem d_Md_tree_139 : decode c_Md_tree 139 = .ok (.iload_n 2, 1) := by decide +kernel
theorem d_Md_tree_140 : decode c_Md_tree 140 = .ok (.iaload, 1) := by decide +kernel
theorem d_Md_tree_141 : decode c_Md_tree 141 = .ok (.iadd, 1) := by decide +kernel
theorem d_Md_tree_142 : decode c_Md_tree 142 = .ok (.iload 4, 2) := by decide +kernel
theorem d_Md_tree_144 : decode c_Md_tree 144 = .ok (.iconst 1, 1) := by decide +kernel
theorem d_Md_tree_145 : decode c_Md_tree 145 = .ok (.if_icmp .le 12, 3) := by decide +kernel
theorem d_Md_tree_148 : decode c_Md_tree 148 = .ok (.aload_n 0, 1) := by decide +kernel
theorem d_Md_tree_149 : decode c_Md_tree 149 = .ok (.getfield 22, 3) := by decide +kernel
theorem d_Md_tree_152 : decode c_Md_tree 152 = .ok (.iload_n 3, 1) := by decide +kernel
theorem d_Md_tree_153 : decode c_Md_tree 153 = .ok (.iaload, 1) := by decide +kernel
theorem d_Md_tree_154 : decode c_Md_tree 154 = .ok (.goto 4, 3) := by decide +kernel
theorem d_Md_tree_157 : decode c_Md_tree 157 = .ok (.iconst 0, 1) := by decide +kernel
theorem d_Md_tree_158 : decode c_Md_tree 158 = .ok (.iadd, 1) := by decide +kernel
theorem d_Md_tree_159 : decode c_Md_tree 159 = .ok (.istore 6, 2) := by decide +kernel
theorem d_Md_tree_161 : decode c_Md_tree 161 = .ok (.iconst 1, 1) := by decide +kernel
theorem d_Md_tree_162 : decode c_Md_tree 162 = .ok (.iload 4, 2) := by decide +kernel
theorem d_Md_tree_164 : decode c_Md_tree 164 = .ok (.iconst 1, 1) := by decide +kernel
theorem d_Md_tree_165 : decode c_Md_tree 165 = .ok (.if_icmp .le 27, 3) := by decide +kernel
theorem d_Md_tree_168 : decode c_Md_tree 168 = .ok (.aload_n 0, 1) := by decide +kernel
theorem d_Md_tree_169 : decode c_Md_tree 169 = .ok (.getfield 25, 3) := by decide +kernel
theorem d_Md_tree_172 : decode c_Md_tree 172 = .ok (.iload_n 3, 1) := by decide +kernel
theorem d_Md_tree_173 : decode c_Md_tree 173 = .ok (.iaload, 1) := by decide +kernel
theorem d_Md_tree_174 : decode c_Md_tree 174 = .ok (.aload_n 0, 1) := by decide +kernel
theorem d_Md_tree_175 : decode c_Md_tree 175 = .ok (.getfield 25, 3) := by decide +kernel
theorem d_Md_tree_178 : decode c_Md_tree 178 = .ok (.iload_n 2, 1) := by decide +kernel
theorem d_Md_tree_179 : decode c_Md_tree 179 = .ok (.iaload, 1) := by decide +kernel
theorem d_Md_tree_180 : decode c_Md_tree 180 = .ok (.if_icmp .le 12, 3) := by decide +kernel
theorem d_Md_tree_183 : decode c_Md_tree 183 = .ok (.aload_n 0, 1) := by decide +kernel
theorem d_Md_tree_184 : decode c_Md_tree 184 = .ok (.getfield 25, 3) := by decide +kernel
theorem d_Md_tree_187 : decode c_Md_tree 187 = .ok (.iload_n 3, 1) := by decide +kernel
theorem d_Md_tree_188 : decode c_Md_tree 188 = .ok (.iaload, 1) := by decide +kernel
theorem d_Md_tree_189 : decode c_Md_tree 189 = .ok (.goto 9, 3) := by decide +kernel
theorem d_Md_tree_192 : decode c_Md_tree 192 = .ok (.aload_n 0, 1) := by decide +kernel
theorem d_Md_tree_193 : decode c_Md_tree 193 = .ok (.getfield 25, 3) := by decide +kernel
theorem d_Md_tree_196 : decode c_Md_tree 196 = .ok (.iload_n 2, 1) := by decide +kernel
theorem d_Md_tree_197 : decode c_Md_tree 197 = .ok (.iaload, 1) := by decide +kernel
theorem d_Md_tree_198 : decode c_Md_tree 198 = .ok (.iadd, 1) := by decide +kernel
theorem d_Md_tree_199 : decode c_Md_tree 199 = .ok (.istore 7, 2) := by decide +kernel
theorem d_Md_tree_201 : decode c_Md_tree 201 = .ok (.aload_n 0, 1) := by decide +kernel
theorem d_Md_tree_202 : decode c_Md_tree 202 = .ok (.getfield 28, 3) := by decide +kernel
theorem d_Md_tree_205 : decode c_Md_tree 205 = .ok (.iload_n 2, 1) := by decide +kernel
theorem d_Md_tree_206 : decode c_Md_tree 206 = .ok (.iaload, 1) := by decide +kernel
theorem d_Md_tree_207 : decode c_Md_tree 207 = .ok (.iload 4, 2) := by decide +kernel
theorem d_Md_tree_209 : decode c_Md_tree 209 = .ok (.iconst 1, 1) := by decide +kernel
theorem d_Md_tree_210 : decode c_Md_tree 210 = .ok (.if_icmp .le 12, 3) := by decide +kernel
theorem d_Md_tree_213 : decode c_Md_tree 213 = .ok (.aload_n 0, 1) := by decide +kernel
theorem d_Md_tree_214 : decode c_Md_tree 214 = .ok (.getfield 28, 3) := by decide +kernel
theorem d_Md_tree_217 : decode c_Md_tree 217 = .ok (.iload_n 3, 1) := by decide +kernel
theorem d_Md_tree_218 : decode c_Md_tree 218 = .ok (.iaload, 1) := by decide +kernel
theorem d_Md_tree_219 : decode c_Md_tree 219 = .ok (.goto 4, 3) := by decide +kernel
theorem d_Md_tree_222 : decode c_Md_tree 222 = .ok (.iconst 0, 1) := by decide +kernel
theorem d_Md_tree_223 : decode c_Md_tree 223 = .ok (.ior, 1) := by decide +kernel
theorem d_Md_tree_224 : decode c_Md_tree 224 = .ok (.istore 8, 2) := by decide +kernel
theorem d_Md_tree_226 : decode c_Md_tree 226 = .ok (.aload_n 0, 1) := by decide +kernel
theorem d_Md_tree_227 : decode c_Md_tree 227 = .ok (.getfield 90, 3) := by decide +kernel
theorem d_Md_tree_230 : decode c_Md_tree 230 = .ok (.sipush 300, 3) := by decide +kernel
theorem d_Md_tree_233 : decode c_Md_tree 233 = .ok (.if_icmp .eq 18, 3) := by decide +kernel
theorem d_Md_tree_236 : decode c_Md_tree 236 = .ok (.iload 7, 2) := by decide +kernel
theorem d_Md_tree_238 : decode c_Md_tree 238 = .ok (.bipush 30, 2) := by decide +kernel
theorem d_Md_tree_240 : decode c_Md_tree 240 = .ok (.if_icmp .gt 11, 3) := by decide +kernel
theorem d_Md_tree_243 : decode c_Md_tree 243 = .ok (.iload 5, 2) := by decide +kernel
theorem d_Md_tree_245 : decode c_Md_tree 245 = .ok (.sipush 1000, 3) := by decide +kernel
theorem d_Md_tree_248 : decode c_Md_tree 248 = .ok (.if_icmp .le 10, 3) := by decide +kernel
theorem d_Md_tree_251 : decode c_Md_tree 251 = .ok (.aload_n 0, 1) := by decide +kernel
theorem d_Md_tree_252 : decode c_Md_tree 252 = .ok (.iconst 1, 1) := by decide +kernel
theorem d_Md_tree_253 : decode c_Md_tree 253 = .ok (.putfield 97, 3) := by decide +kernel
theorem d_Md_tree_256 : decode c_Md_tree 256 = .ok (.iconst (-1), 1) := by decide +kernel
theorem d_Md_tree_257 : decode c_Md_tree 257 = .ok (.ireturn, 1) := by decide +kernel
theorem d_Md_tree_258 : decode c_Md_tree 258 = .ok (.aload_n 0, 1) := by decide +kernel
theorem d_Md_tree_259 : decode c_Md_tree 259 = .ok (.getfield 7, 3) := by decide +kernel
theorem d_Md_tree_262 : decode c_Md_tree 262 = .ok (.aload_n 0, 1) := by decide +kernel
theorem d_Md_tree_263 : decode c_Md_tree 263 = .ok (.getfield 90, 3) := by decide +kernel
theorem d_Md_tree_266 : decode c_Md_tree 266 = .ok (.iload_n 1, 1) := by decide +kernel
theorem d_Md_tree_267 : decode c_Md_tree 267 = .ok (.iastore, 1) := by decide +kernel
theorem d_Md_tree_268 : decode c_Md_tree 268 = .ok (.aload_n 0, 1) := by decide +kernel
theorem d_Md_tree_269 : decode c_Md_tree 269 = .ok (.getfield 13, 3) := by decide +kernel
theorem d_Md_tree_272 : decode c_Md_tree 272 = .ok (.aload_n 0, 1) := by decide +kernel
theorem d_Md_tree_273 : decode c_Md_tree 273 = .ok (.getfield 90, 3) := by decide +kernel
theorem d_Md_tree_276 : decode c_Md_tree 276 = .ok (.iload_n 2, 1) := by decide +kernel
theorem d_Md_tree_277 : decode c_Md_tree 277 = .ok (.iastore, 1) := by decide +kernel
theorem d_Md_tree_278 : decode c_Md_tree 278 = .ok (.aload_n 0, 1) := by decide +kernel
theorem d_Md_tree_279 : decode c_Md_tree 279 = .ok (.getfield 16, 3) := by decide +kernel
theorem d_Md_tree_282 : decode c_Md_tree 282 = .ok (.aload_n 0, 1) := by decide +kernel
theorem d_Md_tree_283 : decode c_Md_tree 283 = .ok (.getfield 90, 3) := by decide +kernel
theorem d_Md_tree_286 : decode c_Md_tree 286 = .ok (.iload_n 3, 1) := by decide +kernel
theorem d_Md_tree_287 : decode c_Md_tree 287 = .ok (.iastore, 1) := by decide +kernel
theorem d_Md_tree_288 : decode c_Md_tree 288 = .ok (.aload_n 0, 1) := by decide +kernel
theorem d_Md_tree_289 : decode c_Md_tree 289 = .ok (.getfield 19, 3) := by decide +kernel
theorem d_Md_tree_292 : decode c_Md_tree 292 = .ok (.aload_n 0, 1) := by decide +kernel
theorem d_Md_tree_293 : decode c_Md_tree 293 = .ok (.getfield 90, 3) := by decide +kernel
theorem d_Md_tree_296 : decode c_Md_tree 296 = .ok (.iload 5, 2) := by decide +kernel
theorem d_Md_tree_298 : decode c_Md_tree 298 = .ok (.iastore, 1) := by decide +kernel
theorem d_Md_tree_299 : decode c_Md_tree 299 = .ok (.aload_n 0, 1) := by decide +kernel
theorem d_Md_tree_300 : decode c_Md_tree 300 = .ok (.getfield 22, 3) := by decide +kernel
theorem d_Md_tree_303 : decode c_Md_tree 303 = .ok (.aload_n 0, 1) := by decide +kernel
theorem d_Md_tree_304 : decode c_Md_tree 304 = .ok (.getfield 90, 3) := by decide +kernel
theorem d_Md_tree_307 : decode c_Md_tree 307 = .ok (.iload 6, 2) := by decide +kernel
theorem d_Md_tree_309 : decode c_Md_tree 309 = .ok (.iastore, 1) := by decide +kernel
theorem d_Md_tree_310 : decode c_Md_tree 310 = .ok (.aload_n 0, 1) := by decide +kernel
theorem d_Md_tree_311 : decode c_Md_tree 311 = .ok (.getfield 25, 3) := by decide +kernel
theorem d_Md_tree_314 : decode c_Md_tree 314 = .ok (.aload_n 0, 1) := by decide +kernel
theorem d_Md_tree_315 : decode c_Md_tree 315 = .ok (.getfield 90, 3) := by decide +kernel
theorem d_Md_tree_318 : decode c_Md_tree 318 = .ok (.iload 7, 2) := by decide +kernel
theorem d_Md_tree_320 : decode c_Md_tree 320 = .ok (.iastore, 1) := by decide +kernel
theorem d_Md_tree_321 : decode c_Md_tree 321 = .ok (.aload_n 0, 1) := by decide +kernel
theorem d_Md_tree_322 : decode c_Md_tree 322 = .ok (.getfield 28, 3) := by decide +kernel
theorem d_Md_tree_325 : decode c_Md_tree 325 = .ok (.aload_n 0, 1) := by decide +kernel
theorem d_Md_tree_326 : decode c_Md_tree 326 = .ok (.getfield 90, 3) := by decide +kernel
theorem d_Md_tree_329 : decode c_Md_tree 329 = .ok (.iload 8, 2) := by decide +kernel
theorem d_Md_tree_331 : decode c_Md_tree 331 = .ok (.iastore, 1) := by decide +kernel
theorem d_Md_tree_332 : decode c_Md_tree 332 = .ok (.aload_n 0, 1) := by decide +kernel
theorem d_Md_tree_333 : decode c_Md_tree 333 = .ok (.dup, 1) := by decide +kernel
theorem d_Md_tree_334 : decode c_Md_tree 334 = .ok (.getfield 90, 3) := by decide +kernel
theorem d_Md_tree_337 : decode c_Md_tree 337 = .ok (.iconst 1, 1) := by decide +kernel
theorem d_Md_tree_338 : decode c_Md_tree 338 = .ok (.iadd, 1) := by decide +kernel
theorem d_Md_tree_339 : decode c_Md_tree 339 = .ok (.putfield 90, 3) := by decide +kernel
theorem d_Md_tree_342 : decode c_Md_tree 342 = .ok (.aload_n 0, 1) := by decide +kernel
theorem d_Md_tree_343 : decode c_Md_tree 343 = .ok (.getfield 90, 3) := by decide +kernel
theorem d_Md_tree_346 : decode c_Md_tree 346 = .ok (.iconst 1, 1) := by decide +kernel
theorem d_Md_tree_347 : decode c_Md_tree 347 = .ok (.isub, 1) := by decide +kernel
theorem d_Md_tree_348 : decode c_Md_tree 348 = .ok (.ireturn, 1) := by decide +kernel
theorem d_Md_parts_0 : decode c_Md_parts 0 = .ok (.iload_n 0, 1) := by decide +kernel
theorem d_Md_parts_1 : decode c_Md_parts 1 = .ok (.bipush 100, 2) := by decide +kernel
theorem d_Md_parts_3 : decode c_Md_parts 3 = .ok (.if_icmp .lt 7, 3) := by decide +kernel
theorem d_Md_parts_6 : decode c_Md_parts 6 = .ok (.iconst 0, 1) := by decide +kernel
theorem d_Md_parts_7 : decode c_Md_parts 7 = .ok (.goto 14, 3) := by decide +kernel
theorem d_Md_parts_10 : decode c_Md_parts 10 = .ok (.iload_n 0, 1) := by decide +kernel
theorem d_Md_parts_11 : decode c_Md_parts 11 = .ok (.bipush 6, 2) := by decide +kernel
theorem d_Md_parts_13 : decode c_Md_parts 13 = .ok (.if_icmp .ge 7, 3) := by decide +kernel
theorem d_Md_parts_16 : decode c_Md_parts 16 = .ok (.iconst 1, 1) := by decide +kernel
theorem d_Md_parts_17 : decode c_Md_parts 17 = .ok (.goto 4, 3) := by decide +kernel
theorem d_Md_parts_20 : decode c_Md_parts 20 = .ok (.iconst 2, 1) := by decide +kernel
theorem d_Md_parts_21 : decode c_Md_parts 21 = .ok (.ireturn, 1) := by decide +kernel
theorem d_Md_hole_0 : decode c_Md_hole 0 = .ok (.aload_n 0, 1) := by decide +kernel
theorem d_Md_hole_1 : decode c_Md_hole 1 = .ok (.iload_n 1, 1) := by decide +kernel
theorem d_Md_hole_2 : decode c_Md_hole 2 = .ok (.ifCond .lt 8, 3) := by decide +kernel
theorem d_Md_hole_5 : decode c_Md_hole 5 = .ok (.iload_n 1, 1) := by decide +kernel
theorem d_Md_hole_6 : decode c_Md_hole 6 = .ok (.iconst 5, 1) := by decide +kernel
theorem d_Md_hole_7 : decode c_Md_hole 7 = .ok (.if_icmp .le 7, 3) := by decide +kernel
theorem d_Md_hole_10 : decode c_Md_hole 10 = .ok (.iconst 1, 1) := by decide +kernel
theorem d_Md_hole_11 : decode c_Md_hole 11 = .ok (.goto 4, 3) := by decide +kernel
theorem d_Md_hole_14 : decode c_Md_hole 14 = .ok (.iconst 0, 1) := by decide +kernel
theorem d_Md_hole_15 : decode c_Md_hole 15 = .ok (.putfield 86, 3) := by decide +kernel
theorem d_Md_hole_18 : decode c_Md_hole 18 = .ok (.aload_n 0, 1) := by decide +kernel
theorem d_Md_hole_19 : decode c_Md_hole 19 = .ok (.getfield 86, 3) := by decide +kernel
theorem d_Md_hole_22 : decode c_Md_hole 22 = .ok (.ifCond .eq 7, 3) := by decide +kernel
theorem d_Md_hole_25 : decode c_Md_hole 25 = .ok (.iconst 0, 1) := by decide +kernel
theorem d_Md_hole_26 : decode c_Md_hole 26 = .ok (.goto 15, 3) := by decide +kernel
theorem d_Md_hole_29 : decode c_Md_hole 29 = .ok (.aload_n 0, 1) := by decide +kernel
theorem d_Md_hole_30 : decode c_Md_hole 30 = .ok (.sipush 200, 3) := by decide +kernel
theorem d_Md_hole_33 : decode c_Md_hole 33 = .ok (.iload_n 1, 1) := by decide +kernel
theorem d_Md_hole_34 : decode c_Md_hole 34 = .ok (.iadd, 1) := by decide +kernel
theorem d_Md_hole_35 : decode c_Md_hole 35 = .ok (.iconst (-1), 1) := by decide +kernel
theorem d_Md_hole_36 : decode c_Md_hole 36 = .ok (.iconst (-1), 1) := by decide +kernel
theorem d_Md_hole_37 : decode c_Md_hole 37 = .ok (.iconst 2, 1) := by decide +kernel
theorem d_Md_hole_38 : decode c_Md_hole 38 = .ok (.invokevirtual 105, 3) := by decide +kernel
theorem d_Md_hole_41 : decode c_Md_hole 41 = .ok (.ireturn, 1) := by decide +kernel
theorem d_Md_node_0 : decode c_Md_node 0 = .ok (.aload_n 0, 1) := by decide +kernel
theorem d_Md_node_1 : decode c_Md_node 1 = .ok (.iload_n 2, 1) := by decide +kernel
theorem d_Md_node_2 : decode c_Md_node 2 = .ok (.invokevirtual 109, 3) := by decide +kernel
theorem d_Md_node_5 : decode c_Md_node 5 = .ok (.ifCond .eq 26, 3) := by decide +kernel
theorem d_Md_node_8 : decode c_Md_node 8 = .ok (.aload_n 0, 1) := by decide +kernel
theorem d_Md_node_9 : decode c_Md_node 9 = .ok (.iload_n 3, 1) := by decide +kernel
theorem d_Md_node_10 : decode c_Md_node 10 = .ok (.invokevirtual 109, 3) := by decide +kernel
theorem d_Md_node_13 : decode c_Md_node 13 = .ok (.ifCond .ne 14, 3) := by decide +kernel
theorem d_Md_node_16 : decode c_Md_node 16 = .ok (.iload_n 3, 1) := by decide +kernel
theorem d_Md_node_17 : decode c_Md_node 17 = .ok (.iconst (-1), 1) := by decide +kernel
theorem d_Md_node_18 : decode c_Md_node 18 = .ok (.if_icmp .ne 13, 3) := by decide +kernel
theorem d_Md_node_21 : decode c_Md_node 21 = .ok (.iload_n 1, 1) := by decide +kernel
theorem d_Md_node_22 : decode c_Md_node 22 = .ok (.bipush 6, 2) := by decide +kernel
theorem d_Md_node_24 : decode c_Md_node 24 = .ok (.if_icmp .ge 7, 3) := by decide +kernel
theorem d_Md_node_27 : decode c_Md_node 27 = .ok (.iconst 1, 1) := by decide +kernel
theorem d_Md_node_28 : decode c_Md_node 28 = .ok (.goto 4, 3) := by decide +kernel
theorem d_Md_node_31 : decode c_Md_node 31 = .ok (.iconst 0, 1) := by decide +kernel
theorem d_Md_node_32 : decode c_Md_node 32 = .ok (.istore 4, 2) := by decide +kernel
theorem d_Md_node_34 : decode c_Md_node 34 = .ok (.iload_n 1, 1) := by decide +kernel
theorem d_Md_node_35 : decode c_Md_node 35 = .ok (.ifCond .lt 32, 3) := by decide +kernel
theorem d_Md_node_38 : decode c_Md_node 38 = .ok (.iload_n 1, 1) := by decide +kernel
theorem d_Md_node_39 : decode c_Md_node 39 = .ok (.bipush 11, 2) := by decide +kernel
theorem d_Md_node_41 : decode c_Md_node 41 = .ok (.if_icmp .gt 26, 3) := by decide +kernel
theorem d_Md_node_44 : decode c_Md_node 44 = .ok (.iload_n 1, 1) := by decide +kernel
theorem d_Md_node_45 : decode c_Md_node 45 = .ok (.bipush 6, 2) := by decide +kernel
theorem d_Md_node_47 : decode c_Md_node 47 = .ok (.if_icmp .ge 11, 3) := by decide +kernel
theorem d_Md_node_50 : decode c_Md_node 50 = .ok (.iload_n 3, 1) := by decide +kernel
theorem d_Md_node_51 : decode c_Md_node 51 = .ok (.iconst (-1), 1) := by decide +kernel
theorem d_Md_node_52 : decode c_Md_node 52 = .ok (.if_icmp .ne 15, 3) := by decide +kernel
theorem d_Md_node_55 : decode c_Md_node 55 = .ok (.goto 8, 3) := by decide +kernel
theorem d_Md_node_58 : decode c_Md_node 58 = .ok (.iload_n 3, 1) := by decide +kernel
theorem d_Md_node_59 : decode c_Md_node 59 = .ok (.iconst (-1), 1) := by decide +kernel
theorem d_Md_node_60 : decode c_Md_node 60 = .ok (.if_icmp .eq 7, 3) := by decide +kernel
theorem d_Md_node_63 : decode c_Md_node 63 = .ok (.iconst 1, 1) := by decide +kernel
theorem d_Md_node_64 : decode c_Md_node 64 = .ok (.goto 4, 3) := by decide +kernel
theorem d_Md_node_67 : decode c_Md_node 67 = .ok (.iconst 0, 1) := by decide +kernel
theorem d_Md_node_68 : decode c_Md_node 68 = .ok (.istore 5, 2) := by decide +kernel
theorem d_Md_node_70 : decode c_Md_node 70 = .ok (.aload_n 0, 1) := by decide +kernel
theorem d_Md_node_71 : decode c_Md_node 71 = .ok (.iload 4, 2) := by decide +kernel
theorem d_Md_node_73 : decode c_Md_node 73 = .ok (.ifCond .ne 7, 3) := by decide +kernel
theorem d_Md_node_76 : decode c_Md_node 76 = .ok (.iconst 1, 1) := by decide +kernel
theorem d_Md_node_77 : decode c_Md_node 77 = .ok (.goto 13, 3) := by decide +kernel
theorem d_Md_node_80 : decode c_Md_node 80 = .ok (.iload 5, 2) := by decide +kernel
theorem d_Md_node_82 : decode c_Md_node 82 = .ok (.ifCond .ne 7, 3) := by decide +kernel
theorem d_Md_node_85 : decode c_Md_node 85 = .ok (.iconst 2, 1) := by decide +kernel
theorem d_Md_node_86 : decode c_Md_node 86 = .ok (.goto 4, 3) := by decide +kernel
theorem d_Md_node_89 : decode c_Md_node 89 = .ok (.iconst 0, 1) := by decide +kernel
theorem d_Md_node_90 : decode c_Md_node 90 = .ok (.putfield 86, 3) := by decide +kernel
theorem d_Md_node_93 : decode c_Md_node 93 = .ok (.aload_n 0, 1) := by decide +kernel
theorem d_Md_node_94 : decode c_Md_node 94 = .ok (.getfield 86, 3) := by decide +kernel
theorem d_Md_node_97 : decode c_Md_node 97 = .ok (.ifCond .eq 7, 3) := by decide +kernel
theorem d_Md_node_100 : decode c_Md_node 100 = .ok (.iconst 0, 1) := by decide +kernel
theorem d_Md_node_101 : decode c_Md_node 101 = .ok (.goto 11, 3) := by decide +kernel
theorem d_Md_node_104 : decode c_Md_node 104 = .ok (.aload_n 0, 1) := by decide +kernel
theorem d_Md_node_105 : decode c_Md_node 105 = .ok (.iload_n 1, 1) := by decide +kernel
theorem d_Md_node_106 : decode c_Md_node 106 = .ok (.iload_n 2, 1) := by decide +kernel
theorem d_Md_node_107 : decode c_Md_node 107 = .ok (.iload_n 3, 1) := by decide +kernel
theorem d_Md_node_108 : decode c_Md_node 108 = .ok (.iconst 3, 1) := by decide +kernel
theorem d_Md_node_109 : decode c_Md_node 109 = .ok (.invokevirtual 105, 3) := by decide +kernel
theorem d_Md_node_112 : decode c_Md_node 112 = .ok (.ireturn, 1) := by decide +kernel
theorem d_Md_isTree_0 : decode c_Md_isTree 0 = .ok (.iload_n 1, 1) := by decide +kernel
theorem d_Md_isTree_1 : decode c_Md_isTree 1 = .ok (.ifCond .lt 15, 3) := by decide +kernel
theorem d_Md_isTree_4 : decode c_Md_isTree 4 = .ok (.iload_n 1, 1) := by decide +kernel
theorem d_Md_isTree_5 : decode c_Md_isTree 5 = .ok (.aload_n 0, 1) := by decide +kernel
theorem d_Md_isTree_6 : decode c_Md_isTree 6 = .ok (.getfield 90, 3) := by decide +kernel
theorem d_Md_isTree_9 : decode c_Md_isTree 9 = .ok (.if_icmp .ge 7, 3) := by decide +kernel
theorem d_Md_isTree_12 : decode c_Md_isTree 12 = .ok (.iconst 1, 1) := by decide +kernel
theorem d_Md_isTree_13 : decode c_Md_isTree 13 = .ok (.goto 4, 3) := by decide +kernel
theorem d_Md_isTree_16 : decode c_Md_isTree 16 = .ok (.iconst 0, 1) := by decide +kernel
theorem d_Md_isTree_17 : decode c_Md_isTree 17 = .ok (.ireturn, 1) := by decide +kernel
theorem d_Md_rule_0 : decode c_Md_rule 0 = .ok (.aload_n 0, 1) := by decide +kernel
theorem d_Md_rule_1 : decode c_Md_rule 1 = .ok (.aload_n 0, 1) := by decide +kernel
theorem d_Md_rule_2 : decode c_Md_rule 2 = .ok (.iload_n 1, 1) := by decide +kernel
theorem d_Md_rule_3 : decode c_Md_rule 3 = .ok (.invokevirtual 109, 3) := by decide +kernel
theorem d_Md_rule_6 : decode c_Md_rule 6 = .ok (.ifCond .eq 11, 3) := by decide +kernel
theorem d_Md_rule_9 : decode c_Md_rule 9 = .ok (.aload_n 0, 1) := by decide +kernel
theorem d_Md_rule_10 : decode c_Md_rule 10 = .ok (.iload_n 2, 1) := by decide +kernel
theorem d_Md_rule_11 : decode c_Md_rule 11 = .ok (.invokevirtual 109, 3) := by decide +kernel
theorem d_Md_rule_14 : decode c_Md_rule 14 = .ok (.ifCond .ne 7, 3) := by decide +kernel
theorem d_Md_rule_17 : decode c_Md_rule 17 = .ok (.iconst 1, 1) := by decide +kernel
theorem d_Md_rule_18 : decode c_Md_rule 18 = .ok (.goto 48, 3) := by decide +kernel
theorem d_Md_rule_21 : decode c_Md_rule 21 = .ok (.aload_n 0, 1) := by decide +kernel
theorem d_Md_rule_22 : decode c_Md_rule 22 = .ok (.getfield 7, 3) := by decide +kernel
theorem d_Md_rule_25 : decode c_Md_rule 25 = .ok (.iload_n 1, 1) := by decide +kernel
theorem d_Md_rule_26 : decode c_Md_rule 26 = .ok (.iaload, 1) := by decide +kernel
theorem d_Md_rule_27 : decode c_Md_rule 27 = .ok (.bipush 100, 2) := by decide +kernel
theorem d_Md_rule_29 : decode c_Md_rule 29 = .ok (.if_icmp .ge 32, 3) := by decide +kernel
theorem d_Md_rule_32 : decode c_Md_rule 32 = .ok (.aload_n 0, 1) := by decide +kernel
theorem d_Md_rule_33 : decode c_Md_rule 33 = .ok (.getfield 28, 3) := by decide +kernel
theorem d_Md_rule_36 : decode c_Md_rule 36 = .ok (.iload_n 2, 1) := by decide +kernel
theorem d_Md_rule_37 : decode c_Md_rule 37 = .ok (.iaload, 1) := by decide +kernel
theorem d_Md_rule_38 : decode c_Md_rule 38 = .ok (.aload_n 0, 1) := by decide +kernel
theorem d_Md_rule_39 : decode c_Md_rule 39 = .ok (.getfield 28, 3) := by decide +kernel
theorem d_Md_rule_42 : decode c_Md_rule 42 = .ok (.iload_n 1, 1) := by decide +kernel
theorem d_Md_rule_43 : decode c_Md_rule 43 = .ok (.iaload, 1) := by decide +kernel
theorem d_Md_rule_44 : decode c_Md_rule 44 = .ok (.iconst (-1), 1) := by decide +kernel
theorem d_Md_rule_45 : decode c_Md_rule 45 = .ok (.ixor, 1) := by decide +kernel
theorem d_Md_rule_46 : decode c_Md_rule 46 = .ok (.iand, 1) := by decide +kernel
theorem d_Md_rule_47 : decode c_Md_rule 47 = .ok (.ifCond .ne 14, 3) := by decide +kernel
theorem d_Md_rule_50 : decode c_Md_rule 50 = .ok (.iload_n 3, 1) := by decide +kernel
theorem d_Md_rule_51 : decode c_Md_rule 51 = .ok (.iconst (-1), 1) := by decide +kernel
theorem d_Md_rule_52 : decode c_Md_rule 52 = .ok (.if_icmp .lt 9, 3) := by decide +kernel
theorem d_Md_rule_55 : decode c_Md_rule 55 = .ok (.iload_n 3, 1) := by decide +kernel
theorem d_Md_rule_56 : decode c_Md_rule 56 = .ok (.bipush 9, 2) := by decide +kernel
theorem d_Md_rule_58 : decode c_Md_rule 58 = .ok (.if_icmp .le 7, 3) := by decide +kernel
theorem d_Md_rule_61 : decode c_Md_rule 61 = .ok (.iconst 2, 1) := by decide +kernel
theorem d_Md_rule_62 : decode c_Md_rule 62 = .ok (.goto 4, 3) := by decide +kernel
theorem d_Md_rule_65 : decode c_Md_rule 65 = .ok (.iconst 0, 1) := by decide +kernel
theorem d_Md_rule_66 : decode c_Md_rule 66 = .ok (.putfield 86, 3) := by decide +kernel
theorem d_Md_rule_69 : decode c_Md_rule 69 = .ok (.aload_n 0, 1) := by decide +kernel
theorem d_Md_rule_70 : decode c_Md_rule 70 = .ok (.getfield 86, 3) := by decide +kernel
theorem d_Md_rule_73 : decode c_Md_rule 73 = .ok (.ifCond .eq 5, 3) := by decide +kernel
theorem d_Md_rule_76 : decode c_Md_rule 76 = .ok (.iconst 0, 1) := by decide +kernel
theorem d_Md_rule_77 : decode c_Md_rule 77 = .ok (.ireturn, 1) := by decide +kernel
theorem d_Md_rule_78 : decode c_Md_rule 78 = .ok (.aload_n 0, 1) := by decide +kernel
theorem d_Md_rule_79 : decode c_Md_rule 79 = .ok (.getfield 129, 3) := by decide +kernel
theorem d_Md_rule_82 : decode c_Md_rule 82 = .ok (.bipush 16, 2) := by decide +kernel
theorem d_Md_rule_84 : decode c_Md_rule 84 = .ok (.if_icmp .ne 5, 3) := by decide +kernel
theorem d_Md_rule_87 : decode c_Md_rule 87 = .ok (.iconst (-1), 1) := by decide +kernel
theorem d_Md_rule_88 : decode c_Md_rule 88 = .ok (.ireturn, 1) := by decide +kernel
theorem d_Md_rule_89 : decode c_Md_rule 89 = .ok (.aload_n 0, 1) := by decide +kernel
theorem d_Md_rule_90 : decode c_Md_rule 90 = .ok (.getfield 31, 3) := by decide +kernel
theorem d_Md_rule_93 : decode c_Md_rule 93 = .ok (.aload_n 0, 1) := by decide +kernel
theorem d_Md_rule_94 : decode c_Md_rule 94 = .ok (.getfield 129, 3) := by decide +kernel
theorem d_Md_rule_97 : decode c_Md_rule 97 = .ok (.iload_n 1, 1) := by decide +kernel
theorem d_Md_rule_98 : decode c_Md_rule 98 = .ok (.iastore, 1) := by decide +kernel
theorem d_Md_rule_99 : decode c_Md_rule 99 = .ok (.aload_n 0, 1) := by decide +kernel
theorem d_Md_rule_100 : decode c_Md_rule 100 = .ok (.getfield 34, 3) := by decide +kernel
theorem d_Md_rule_103 : decode c_Md_rule 103 = .ok (.aload_n 0, 1) := by decide +kernel
theorem d_Md_rule_104 : decode c_Md_rule 104 = .ok (.getfield 129, 3) := by decide +kernel
theorem d_Md_rule_107 : decode c_Md_rule 107 = .ok (.iload_n 2, 1) := by decide +kernel
theorem d_Md_rule_108 : decode c_Md_rule 108 = .ok (.iastore, 1) := by decide +kernel
theorem d_Md_rule_109 : decode c_Md_rule 109 = .ok (.aload_n 0, 1) := by decide +kernel
theorem d_Md_rule_110 : decode c_Md_rule 110 = .ok (.getfield 37, 3) := by decide +kernel
theorem d_Md_rule_113 : decode c_Md_rule 113 = .ok (.aload_n 0, 1) := by decide +kernel
theorem d_Md_rule_114 : decode c_Md_rule 114 = .ok (.getfield 129, 3) := by decide +kernel
theorem d_Md_rule_117 : decode c_Md_rule 117 = .ok (.iload_n 3, 1) := by decide +kernel
theorem d_Md_rule_118 : decode c_Md_rule 118 = .ok (.iastore, 1) := by decide +kernel
theorem d_Md_rule_119 : decode c_Md_rule 119 = .ok (.aload_n 0, 1) := by decide +kernel
theorem d_Md_rule_120 : decode c_Md_rule 120 = .ok (.getfield 40, 3) := by decide +kernel
theorem d_Md_rule_123 : decode c_Md_rule 123 = .ok (.aload_n 0, 1) := by decide +kernel
theorem d_Md_rule_124 : decode c_Md_rule 124 = .ok (.getfield 129, 3) := by decide +kernel
theorem d_Md_rule_127 : decode c_Md_rule 127 = .ok (.iconst 1, 1) := by decide +kernel
theorem d_Md_rule_128 : decode c_Md_rule 128 = .ok (.bastore, 1) := by decide +kernel
theorem d_Md_rule_129 : decode c_Md_rule 129 = .ok (.aload_n 0, 1) := by decide +kernel
theorem d_Md_rule_130 : decode c_Md_rule 130 = .ok (.dup, 1) := by decide +kernel
theorem d_Md_rule_131 : decode c_Md_rule 131 = .ok (.getfield 129, 3) := by decide +kernel
theorem d_Md_rule_134 : decode c_Md_rule 134 = .ok (.iconst 1, 1) := by decide +kernel
theorem d_Md_rule_135 : decode c_Md_rule 135 = .ok (.iadd, 1) := by decide +kernel
theorem d_Md_rule_136 : decode c_Md_rule 136 = .ok (.putfield 129, 3) := by decide +kernel
theorem d_Md_rule_139 : decode c_Md_rule 139 = .ok (.aload_n 0, 1) := by decide +kernel
theorem d_Md_rule_140 : decode c_Md_rule 140 = .ok (.getfield 129, 3) := by decide +kernel
theorem d_Md_rule_143 : decode c_Md_rule 143 = .ok (.iconst 1, 1) := by decide +kernel
theorem d_Md_rule_144 : decode c_Md_rule 144 = .ok (.isub, 1) := by decide +kernel
theorem d_Md_rule_145 : decode c_Md_rule 145 = .ok (.ireturn, 1) := by decide +kernel
theorem d_Md_holds_0 : decode c_Md_holds 0 = .ok (.aload_n 0, 1) := by decide +kernel
theorem d_Md_holds_1 : decode c_Md_holds 1 = .ok (.iload_n 1, 1) := by decide +kernel
theorem d_Md_holds_2 : decode c_Md_holds 2 = .ok (.ifCond .lt 18, 3) := by decide +kernel
theorem d_Md_holds_5 : decode c_Md_holds 5 = .ok (.iload_n 1, 1) := by decide +kernel
theorem d_Md_holds_6 : decode c_Md_holds 6 = .ok (.bipush 9, 2) := by decide +kernel
theorem d_Md_holds_8 : decode c_Md_holds 8 = .ok (.if_icmp .gt 12, 3) := by decide +kernel
theorem d_Md_holds_11 : decode c_Md_holds 11 = .ok (.iload_n 2, 1) := by decide +kernel
theorem d_Md_holds_12 : decode c_Md_holds 12 = .ok (.ifCond .lt 8, 3) := by decide +kernel
theorem d_Md_holds_15 : decode c_Md_holds 15 = .ok (.iload_n 2, 1) := by decide +kernel
theorem d_Md_holds_16 : decode c_Md_holds 16 = .ok (.iconst 2, 1) := by decide +kernel
theorem d_Md_holds_17 : decode c_Md_holds 17 = .ok (.if_icmp .le 7, 3) := by decide +kernel
theorem d_Md_holds_20 : decode c_Md_holds 20 = .ok (.iconst 1, 1) := by decide +kernel
theorem d_Md_holds_21 : decode c_Md_holds 21 = .ok (.goto 4, 3) := by decide +kernel
theorem d_Md_holds_24 : decode c_Md_holds 24 = .ok (.iconst 0, 1) := by decide +kernel
theorem d_Md_holds_25 : decode c_Md_holds 25 = .ok (.putfield 86, 3) := by decide +kernel
theorem d_Md_holds_28 : decode c_Md_holds 28 = .ok (.aload_n 0, 1) := by decide +kernel
theorem d_Md_holds_29 : decode c_Md_holds 29 = .ok (.getfield 86, 3) := by decide +kernel
theorem d_Md_holds_32 : decode c_Md_holds 32 = .ok (.ifCond .eq 5, 3) := by decide +kernel
theorem d_Md_holds_35 : decode c_Md_holds 35 = .ok (.iconst 0, 1) := by decide +kernel
theorem d_Md_holds_36 : decode c_Md_holds 36 = .ok (.ireturn, 1) := by decide +kernel
theorem d_Md_holds_37 : decode c_Md_holds 37 = .ok (.aload_n 0, 1) := by decide +kernel
theorem d_Md_holds_38 : decode c_Md_holds 38 = .ok (.getfield 44, 3) := by decide +kernel
theorem d_Md_holds_41 : decode c_Md_holds 41 = .ok (.iload_n 1, 1) := by decide +kernel
theorem d_Md_holds_42 : decode c_Md_holds 42 = .ok (.iaload, 1) := by decide +kernel
theorem d_Md_holds_43 : decode c_Md_holds 43 = .ok (.iload_n 2, 1) := by decide +kernel
theorem d_Md_holds_44 : decode c_Md_holds 44 = .ok (.if_icmp .eq 7, 3) := by decide +kernel
theorem d_Md_holds_47 : decode c_Md_holds 47 = .ok (.iconst 1, 1) := by decide +kernel
theorem d_Md_holds_48 : decode c_Md_holds 48 = .ok (.goto 4, 3) := by decide +kernel
theorem d_Md_holds_51 : decode c_Md_holds 51 = .ok (.iconst 0, 1) := by decide +kernel
theorem d_Md_holds_52 : decode c_Md_holds 52 = .ok (.istore_n 3, 1) := by decide +kernel
theorem d_Md_holds_53 : decode c_Md_holds 53 = .ok (.aload_n 0, 1) := by decide +kernel
theorem d_Md_holds_54 : decode c_Md_holds 54 = .ok (.getfield 44, 3) := by decide +kernel
theorem d_Md_holds_57 : decode c_Md_holds 57 = .ok (.iload_n 1, 1) := by decide +kernel
theorem d_Md_holds_58 : decode c_Md_holds 58 = .ok (.iload_n 2, 1) := by decide +kernel
theorem d_Md_holds_59 : decode c_Md_holds 59 = .ok (.iastore, 1) := by decide +kernel
theorem d_Md_holds_60 : decode c_Md_holds 60 = .ok (.iload_n 3, 1) := by decide +kernel
theorem d_Md_holds_61 : decode c_Md_holds 61 = .ok (.ireturn, 1) := by decide +kernel
theorem d_Md_choose_0 : decode c_Md_choose 0 = .ok (.aload_n 0, 1) := by decide +kernel
theorem d_Md_choose_1 : decode c_Md_choose 1 = .ok (.aload_n 0, 1) := by decide +kernel
theorem d_Md_choose_2 : decode c_Md_choose 2 = .ok (.iload_n 1, 1) := by decide +kernel
theorem d_Md_choose_3 : decode c_Md_choose 3 = .ok (.invokevirtual 132, 3) := by decide +kernel
theorem d_Md_choose_6 : decode c_Md_choose 6 = .ok (.ifCond .eq 7, 3) := by decide +kernel
theorem d_Md_choose_9 : decode c_Md_choose 9 = .ok (.iconst 0, 1) := by decide +kernel
theorem d_Md_choose_10 : decode c_Md_choose 10 = .ok (.goto 4, 3) := by decide +kernel
theorem d_Md_choose_13 : decode c_Md_choose 13 = .ok (.iconst 1, 1) := by decide +kernel
theorem d_Md_choose_14 : decode c_Md_choose 14 = .ok (.putfield 86, 3) := by decide +kernel
theorem d_Md_choose_17 : decode c_Md_choose 17 = .ok (.aload_n 0, 1) := by decide +kernel
theorem d_Md_choose_18 : decode c_Md_choose 18 = .ok (.getfield 86, 3) := by decide +kernel
theorem d_Md_choose_21 : decode c_Md_choose 21 = .ok (.ifCond .eq 5, 3) := by decide +kernel
theorem d_Md_choose_24 : decode c_Md_choose 24 = .ok (.iconst 0, 1) := by decide +kernel
theorem d_Md_choose_25 : decode c_Md_choose 25 = .ok (.ireturn, 1) := by decide +kernel
theorem d_Md_choose_26 : decode c_Md_choose 26 = .ok (.aload_n 0, 1) := by decide +kernel
theorem d_Md_choose_27 : decode c_Md_choose 27 = .ok (.getfield 40, 3) := by decide +kernel
theorem d_Md_choose_30 : decode c_Md_choose 30 = .ok (.iload_n 1, 1) := by decide +kernel
theorem d_Md_choose_31 : decode c_Md_choose 31 = .ok (.baload, 1) := by decide +kernel
theorem d_Md_choose_32 : decode c_Md_choose 32 = .ok (.iload_n 2, 1) := by decide +kernel
theorem d_Md_choose_33 : decode c_Md_choose 33 = .ok (.if_icmp .eq 7, 3) := by decide +kernel
theorem d_Md_choose_36 : decode c_Md_choose 36 = .ok (.iconst 1, 1) := by decide +kernel
theorem d_Md_choose_37 : decode c_Md_choose 37 = .ok (.goto 4, 3) := by decide +kernel
theorem d_Md_choose_40 : decode c_Md_choose 40 = .ok (.iconst 0, 1) := by decide +kernel
theorem d_Md_choose_41 : decode c_Md_choose 41 = .ok (.istore_n 3, 1) := by decide +kernel
theorem d_Md_choose_42 : decode c_Md_choose 42 = .ok (.aload_n 0, 1) := by decide +kernel
theorem d_Md_choose_43 : decode c_Md_choose 43 = .ok (.getfield 40, 3) := by decide +kernel
theorem d_Md_choose_46 : decode c_Md_choose 46 = .ok (.iload_n 1, 1) := by decide +kernel
theorem d_Md_choose_47 : decode c_Md_choose 47 = .ok (.iload_n 2, 1) := by decide +kernel
theorem d_Md_choose_48 : decode c_Md_choose 48 = .ok (.bastore, 1) := by decide +kernel
theorem d_Md_choose_49 : decode c_Md_choose 49 = .ok (.iload_n 3, 1) := by decide +kernel
theorem d_Md_choose_50 : decode c_Md_choose 50 = .ok (.ireturn, 1) := by decide +kernel
theorem d_Md_isRule_0 : decode c_Md_isRule 0 = .ok (.iload_n 1, 1) := by decide +kernel
theorem d_Md_isRule_1 : decode c_Md_isRule 1 = .ok (.ifCond .lt 15, 3) := by decide +kernel
theorem d_Md_isRule_4 : decode c_Md_isRule 4 = .ok (.iload_n 1, 1) := by decide +kernel
theorem d_Md_isRule_5 : decode c_Md_isRule 5 = .ok (.aload_n 0, 1) := by decide +kernel
theorem d_Md_isRule_6 : decode c_Md_isRule 6 = .ok (.getfield 129, 3) := by decide +kernel
theorem d_Md_isRule_9 : decode c_Md_isRule 9 = .ok (.if_icmp .ge 7, 3) := by decide +kernel
theorem d_Md_isRule_12 : decode c_Md_isRule 12 = .ok (.iconst 1, 1) := by decide +kernel
theorem d_Md_isRule_13 : decode c_Md_isRule 13 = .ok (.goto 4, 3) := by decide +kernel
theorem d_Md_isRule_16 : decode c_Md_isRule 16 = .ok (.iconst 0, 1) := by decide +kernel
theorem d_Md_isRule_17 : decode c_Md_isRule 17 = .ok (.ireturn, 1) := by decide +kernel
theorem d_Md_usable_0 : decode c_Md_usable 0 = .ok (.aload_n 0, 1) := by decide +kernel
theorem d_Md_usable_1 : decode c_Md_usable 1 = .ok (.aload_n 0, 1) := by decide +kernel
theorem d_Md_usable_2 : decode c_Md_usable 2 = .ok (.iload_n 1, 1) := by decide +kernel
theorem d_Md_usable_3 : decode c_Md_usable 3 = .ok (.invokevirtual 132, 3) := by decide +kernel
theorem d_Md_usable_6 : decode c_Md_usable 6 = .ok (.ifCond .eq 7, 3) := by decide +kernel
theorem d_Md_usable_9 : decode c_Md_usable 9 = .ok (.iconst 0, 1) := by decide +kernel
theorem d_Md_usable_10 : decode c_Md_usable 10 = .ok (.goto 4, 3) := by decide +kernel
theorem d_Md_usable_13 : decode c_Md_usable 13 = .ok (.iconst 1, 1) := by decide +kernel
theorem d_Md_usable_14 : decode c_Md_usable 14 = .ok (.putfield 86, 3) := by decide +kernel
theorem d_Md_usable_17 : decode c_Md_usable 17 = .ok (.aload_n 0, 1) := by decide +kernel
theorem d_Md_usable_18 : decode c_Md_usable 18 = .ok (.getfield 86, 3) := by decide +kernel
theorem d_Md_usable_21 : decode c_Md_usable 21 = .ok (.ifCond .ne 15, 3) := by decide +kernel
theorem d_Md_usable_24 : decode c_Md_usable 24 = .ok (.aload_n 0, 1) := by decide +kernel
theorem d_Md_usable_25 : decode c_Md_usable 25 = .ok (.iload_n 1, 1) := by decide +kernel
theorem d_Md_usable_26 : decode c_Md_usable 26 = .ok (.invokevirtual 135, 3) := by decide +kernel
theorem d_Md_usable_29 : decode c_Md_usable 29 = .ok (.ifCond .eq 7, 3) := by decide +kernel
theorem d_Md_usable_32 : decode c_Md_usable 32 = .ok (.iconst 1, 1) := by decide +kernel
theorem d_Md_usable_33 : decode c_Md_usable 33 = .ok (.goto 4, 3) := by decide +kernel
theorem d_Md_usable_36 : decode c_Md_usable 36 = .ok (.iconst 0, 1) := by decide +kernel
theorem d_Md_usable_37 : decode c_Md_usable 37 = .ok (.ireturn, 1) := by decide +kernel
theorem d_Md_may_0 : decode c_Md_may 0 = .ok (.aload_n 0, 1) := by decide +kernel
theorem d_Md_may_1 : decode c_Md_may 1 = .ok (.getfield 40, 3) := by decide +kernel
theorem d_Md_may_4 : decode c_Md_may 4 = .ok (.iload_n 1, 1) := by decide +kernel
theorem d_Md_may_5 : decode c_Md_may 5 = .ok (.baload, 1) := by decide +kernel
theorem d_Md_may_6 : decode c_Md_may 6 = .ok (.ifCond .eq 32, 3) := by decide +kernel
theorem d_Md_may_9 : decode c_Md_may 9 = .ok (.aload_n 0, 1) := by decide +kernel
theorem d_Md_may_10 : decode c_Md_may 10 = .ok (.getfield 37, 3) := by decide +kernel
theorem d_Md_may_13 : decode c_Md_may 13 = .ok (.iload_n 1, 1) := by decide +kernel
theorem d_Md_may_14 : decode c_Md_may 14 = .ok (.iaload, 1) := by decide +kernel
theorem d_Md_may_15 : decode c_Md_may 15 = .ok (.iconst (-1), 1) := by decide +kernel
theorem d_Md_may_16 : decode c_Md_may 16 = .ok (.if_icmp .eq 18, 3) := by decide +kernel
theorem d_Md_may_19 : decode c_Md_may 19 = .ok (.aload_n 0, 1) := by decide +kernel
theorem d_Md_may_20 : decode c_Md_may 20 = .ok (.getfield 44, 3) := by decide +kernel
theorem d_Md_may_23 : decode c_Md_may 23 = .ok (.aload_n 0, 1) := by decide +kernel
theorem d_Md_may_24 : decode c_Md_may 24 = .ok (.getfield 37, 3) := by decide +kernel
theorem d_Md_may_27 : decode c_Md_may 27 = .ok (.iload_n 1, 1) := by decide +kernel
theorem d_Md_may_28 : decode c_Md_may 28 = .ok (.iaload, 1) := by decide +kernel
theorem d_Md_may_29 : decode c_Md_may 29 = .ok (.iaload, 1) := by decide +kernel
theorem d_Md_may_30 : decode c_Md_may 30 = .ok (.iconst 1, 1) := by decide +kernel
theorem d_Md_may_31 : decode c_Md_may 31 = .ok (.if_icmp .ne 7, 3) := by decide +kernel
theorem d_Md_may_34 : decode c_Md_may 34 = .ok (.iconst 1, 1) := by decide +kernel
theorem d_Md_may_35 : decode c_Md_may 35 = .ok (.goto 4, 3) := by decide +kernel
theorem d_Md_may_38 : decode c_Md_may 38 = .ok (.iconst 0, 1) := by decide +kernel
theorem d_Md_may_39 : decode c_Md_may 39 = .ok (.ireturn, 1) := by decide +kernel
theorem d_Md_lessens_0 : decode c_Md_lessens 0 = .ok (.aload_n 0, 1) := by decide +kernel
theorem d_Md_lessens_1 : decode c_Md_lessens 1 = .ok (.aload_n 0, 1) := by decide +kernel
theorem d_Md_lessens_2 : decode c_Md_lessens 2 = .ok (.iload_n 1, 1) := by decide +kernel
theorem d_Md_lessens_3 : decode c_Md_lessens 3 = .ok (.invokevirtual 132, 3) := by decide +kernel
theorem d_Md_lessens_6 : decode c_Md_lessens 6 = .ok (.ifCond .eq 7, 3) := by decide +kernel
theorem d_Md_lessens_9 : decode c_Md_lessens 9 = .ok (.iconst 0, 1) := by decide +kernel
theorem d_Md_lessens_10 : decode c_Md_lessens 10 = .ok (.goto 4, 3) := by decide +kernel
theorem d_Md_lessens_13 : decode c_Md_lessens 13 = .ok (.iconst 1, 1) := by decide +kernel
theorem d_Md_lessens_14 : decode c_Md_lessens 14 = .ok (.putfield 86, 3) := by decide +kernel
theorem d_Md_lessens_17 : decode c_Md_lessens 17 = .ok (.aload_n 0, 1) := by decide +kernel
theorem d_Md_lessens_18 : decode c_Md_lessens 18 = .ok (.getfield 86, 3) := by decide +kernel
theorem d_Md_lessens_21 : decode c_Md_lessens 21 = .ok (.ifCond .ne 26, 3) := by decide +kernel
theorem d_Md_lessens_24 : decode c_Md_lessens 24 = .ok (.aload_n 0, 1) := by decide +kernel
theorem d_Md_lessens_25 : decode c_Md_lessens 25 = .ok (.aload_n 0, 1) := by decide +kernel
theorem d_Md_lessens_26 : decode c_Md_lessens 26 = .ok (.getfield 31, 3) := by decide +kernel
theorem d_Md_lessens_29 : decode c_Md_lessens 29 = .ok (.iload_n 1, 1) := by decide +kernel
theorem d_Md_lessens_30 : decode c_Md_lessens 30 = .ok (.iaload, 1) := by decide +kernel
theorem d_Md_lessens_31 : decode c_Md_lessens 31 = .ok (.aload_n 0, 1) := by decide +kernel
theorem d_Md_lessens_32 : decode c_Md_lessens 32 = .ok (.getfield 34, 3) := by decide +kernel
theorem d_Md_lessens_35 : decode c_Md_lessens 35 = .ok (.iload_n 1, 1) := by decide +kernel
theorem d_Md_lessens_36 : decode c_Md_lessens 36 = .ok (.iaload, 1) := by decide +kernel
theorem d_Md_lessens_37 : decode c_Md_lessens 37 = .ok (.invokevirtual 138, 3) := by decide +kernel
theorem d_Md_lessens_40 : decode c_Md_lessens 40 = .ok (.ifCond .eq 7, 3) := by decide +kernel
theorem d_Md_lessens_43 : decode c_Md_lessens 43 = .ok (.iconst 1, 1) := by decide +kernel
theorem d_Md_lessens_44 : decode c_Md_lessens 44 = .ok (.goto 4, 3) := by decide +kernel
theorem d_Md_lessens_47 : decode c_Md_lessens 47 = .ok (.iconst 0, 1) := by decide +kernel
theorem d_Md_lessens_48 : decode c_Md_lessens 48 = .ok (.ireturn, 1) := by decide +kernel
theorem d_Md_isAbove_0 : decode c_Md_isAbove 0 = .ok (.iload_n 1, 1) := by decide +kernel
theorem d_Md_isAbove_1 : decode c_Md_isAbove 1 = .ok (.istore_n 3, 1) := by decide +kernel
theorem d_Md_isAbove_2 : decode c_Md_isAbove 2 = .ok (.iload_n 2, 1) := by decide +kernel
theorem d_Md_isAbove_3 : decode c_Md_isAbove 3 = .ok (.istore 4, 2) := by decide +kernel
theorem d_Md_isAbove_5 : decode c_Md_isAbove 5 = .ok (.iload_n 3, 1) := by decide +kernel
theorem d_Md_isAbove_6 : decode c_Md_isAbove 6 = .ok (.iload 4, 2) := by decide +kernel
theorem d_Md_isAbove_8 : decode c_Md_isAbove 8 = .ok (.if_icmp .eq 270, 3) := by decide +kernel
theorem d_Md_isAbove_11 : decode c_Md_isAbove 11 = .ok (.aload_n 0, 1) := by decide +kernel
theorem d_Md_isAbove_12 : decode c_Md_isAbove 12 = .ok (.iload_n 3, 1) := by decide +kernel
theorem d_Md_isAbove_13 : decode c_Md_isAbove 13 = .ok (.iload 4, 2) := by decide +kernel
theorem d_Md_isAbove_15 : decode c_Md_isAbove 15 = .ok (.invokevirtual 125, 3) := by decide +kernel
theorem d_Md_isAbove_18 : decode c_Md_isAbove 18 = .ok (.ifCond .eq 260, 3) := by decide +kernel
theorem d_Md_isAbove_21 : decode c_Md_isAbove 21 = .ok (.aload_n 0, 1) := by decide +kernel
theorem d_Md_isAbove_22 : decode c_Md_isAbove 22 = .ok (.getfield 19, 3) := by decide +kernel
theorem d_Md_isAbove_25 : decode c_Md_isAbove 25 = .ok (.iload_n 3, 1) := by decide +kernel
theorem d_Md_isAbove_26 : decode c_Md_isAbove 26 = .ok (.iaload, 1) := by decide +kernel
theorem d_Md_isAbove_27 : decode c_Md_isAbove 27 = .ok (.aload_n 0, 1) := by decide +kernel
theorem d_Md_isAbove_28 : decode c_Md_isAbove 28 = .ok (.getfield 19, 3) := by decide +kernel
theorem d_Md_isAbove_31 : decode c_Md_isAbove 31 = .ok (.iload 4, 2) := by decide +kernel
theorem d_Md_isAbove_33 : decode c_Md_isAbove 33 = .ok (.iaload, 1) := by decide +kernel
theorem d_Md_isAbove_34 : decode c_Md_isAbove 34 = .ok (.if_icmp .eq 25, 3) := by decide +kernel
theorem d_Md_isAbove_37 : decode c_Md_isAbove 37 = .ok (.aload_n 0, 1) := by decide +kernel
theorem d_Md_isAbove_38 : decode c_Md_isAbove 38 = .ok (.getfield 19, 3) := by decide +kernel
theorem d_Md_isAbove_41 : decode c_Md_isAbove 41 = .ok (.iload_n 3, 1) := by decide +kernel
theorem d_Md_isAbove_42 : decode c_Md_isAbove 42 = .ok (.iaload, 1) := by decide +kernel
theorem d_Md_isAbove_43 : decode c_Md_isAbove 43 = .ok (.aload_n 0, 1) := by decide +kernel
theorem d_Md_isAbove_44 : decode c_Md_isAbove 44 = .ok (.getfield 19, 3) := by decide +kernel
theorem d_Md_isAbove_47 : decode c_Md_isAbove 47 = .ok (.iload 4, 2) := by decide +kernel
theorem d_Md_isAbove_49 : decode c_Md_isAbove 49 = .ok (.iaload, 1) := by decide +kernel
theorem d_Md_isAbove_50 : decode c_Md_isAbove 50 = .ok (.if_icmp .le 7, 3) := by decide +kernel
theorem d_Md_isAbove_53 : decode c_Md_isAbove 53 = .ok (.iconst 1, 1) := by decide +kernel
theorem d_Md_isAbove_54 : decode c_Md_isAbove 54 = .ok (.goto 4, 3) := by decide +kernel
theorem d_Md_isAbove_57 : decode c_Md_isAbove 57 = .ok (.iconst 0, 1) := by decide +kernel
theorem d_Md_isAbove_58 : decode c_Md_isAbove 58 = .ok (.ireturn, 1) := by decide +kernel
theorem d_Md_isAbove_59 : decode c_Md_isAbove 59 = .ok (.aload_n 0, 1) := by decide +kernel
theorem d_Md_isAbove_60 : decode c_Md_isAbove 60 = .ok (.getfield 7, 3) := by decide +kernel
theorem d_Md_isAbove_63 : decode c_Md_isAbove 63 = .ok (.iload_n 3, 1) := by decide +kernel
theorem d_Md_isAbove_64 : decode c_Md_isAbove 64 = .ok (.iaload, 1) := by decide +kernel
theorem d_Md_isAbove_65 : decode c_Md_isAbove 65 = .ok (.bipush 100, 2) := by decide +kernel
theorem d_Md_isAbove_67 : decode c_Md_isAbove 67 = .ok (.if_icmp .ge 7, 3) := by decide +kernel
theorem d_Md_isAbove_70 : decode c_Md_isAbove 70 = .ok (.iconst 1, 1) := by decide +kernel
theorem d_Md_isAbove_71 : decode c_Md_isAbove 71 = .ok (.goto 4, 3) := by decide +kernel
theorem d_Md_isAbove_74 : decode c_Md_isAbove 74 = .ok (.iconst 0, 1) := by decide +kernel
theorem d_Md_isAbove_75 : decode c_Md_isAbove 75 = .ok (.istore 5, 2) := by decide +kernel
theorem d_Md_isAbove_77 : decode c_Md_isAbove 77 = .ok (.aload_n 0, 1) := by decide +kernel
theorem d_Md_isAbove_78 : decode c_Md_isAbove 78 = .ok (.getfield 7, 3) := by decide +kernel
theorem d_Md_isAbove_81 : decode c_Md_isAbove 81 = .ok (.iload 4, 2) := by decide +kernel
theorem d_Md_isAbove_83 : decode c_Md_isAbove 83 = .ok (.iaload, 1) := by decide +kernel
theorem d_Md_isAbove_84 : decode c_Md_isAbove 84 = .ok (.bipush 100, 2) := by decide +kernel
theorem d_Md_isAbove_86 : decode c_Md_isAbove 86 = .ok (.if_icmp .ge 7, 3) := by decide +kernel
theorem d_Md_isAbove_89 : decode c_Md_isAbove 89 = .ok (.iconst 1, 1) := by decide +kernel
theorem d_Md_isAbove_90 : decode c_Md_isAbove 90 = .ok (.goto 4, 3) := by decide +kernel
theorem d_Md_isAbove_93 : decode c_Md_isAbove 93 = .ok (.iconst 0, 1) := by decide +kernel
theorem d_Md_isAbove_94 : decode c_Md_isAbove 94 = .ok (.istore 6, 2) := by decide +kernel
theorem d_Md_isAbove_96 : decode c_Md_isAbove 96 = .ok (.aload_n 0, 1) := by decide +kernel
theorem d_Md_isAbove_97 : decode c_Md_isAbove 97 = .ok (.getfield 7, 3) := by decide +kernel
theorem d_Md_isAbove_100 : decode c_Md_isAbove 100 = .ok (.iload_n 3, 1) := by decide +kernel
theorem d_Md_isAbove_101 : decode c_Md_isAbove 101 = .ok (.iaload, 1) := by decide +kernel
theorem d_Md_isAbove_102 : decode c_Md_isAbove 102 = .ok (.sipush 200, 3) := by decide +kernel
theorem d_Md_isAbove_105 : decode c_Md_isAbove 105 = .ok (.if_icmp .ge 16, 3) := by decide +kernel
theorem d_Md_isAbove_108 : decode c_Md_isAbove 108 = .ok (.aload_n 0, 1) := by decide +kernel
theorem d_Md_isAbove_109 : decode c_Md_isAbove 109 = .ok (.getfield 7, 3) := by decide +kernel
theorem d_Md_isAbove_112 : decode c_Md_isAbove 112 = .ok (.iload 4, 2) := by decide +kernel
theorem d_Md_isAbove_114 : decode c_Md_isAbove 114 = .ok (.iaload, 1) := by decide +kernel
theorem d_Md_isAbove_115 : decode c_Md_isAbove 115 = .ok (.sipush 200, 3) := by decide +kernel
theorem d_Md_isAbove_118 : decode c_Md_isAbove 118 = .ok (.if_icmp .lt 5, 3) := by decide +kernel
theorem d_Md_isAbove_121 : decode c_Md_isAbove 121 = .ok (.iconst 0, 1) := by decide +kernel
theorem d_Md_isAbove_122 : decode c_Md_isAbove 122 = .ok (.ireturn, 1) := by decide +kernel
theorem d_Md_isAbove_123 : decode c_Md_isAbove 123 = .ok (.iload 5, 2) := by decide +kernel
theorem d_Md_isAbove_125 : decode c_Md_isAbove 125 = .ok (.ifCond .eq 8, 3) := by decide +kernel
theorem d_Md_isAbove_128 : decode c_Md_isAbove 128 = .ok (.iload 6, 2) := by decide +kernel
theorem d_Md_isAbove_130 : decode c_Md_isAbove 130 = .ok (.ifCond .ne 35, 3) := by decide +kernel
theorem d_Md_isAbove_133 : decode c_Md_isAbove 133 = .ok (.iload 5, 2) := by decide +kernel
theorem d_Md_isAbove_135 : decode c_Md_isAbove 135 = .ok (.ifCond .ne 24, 3) := by decide +kernel
theorem d_Md_isAbove_138 : decode c_Md_isAbove 138 = .ok (.iload 6, 2) := by decide +kernel
theorem d_Md_isAbove_140 : decode c_Md_isAbove 140 = .ok (.ifCond .ne 23, 3) := by decide +kernel
theorem d_Md_isAbove_143 : decode c_Md_isAbove 143 = .ok (.aload_n 0, 1) := by decide +kernel
theorem d_Md_isAbove_144 : decode c_Md_isAbove 144 = .ok (.getfield 7, 3) := by decide +kernel
theorem d_Md_isAbove_147 : decode c_Md_isAbove 147 = .ok (.iload_n 3, 1) := by decide +kernel
theorem d_Md_isAbove_148 : decode c_Md_isAbove 148 = .ok (.iaload, 1) := by decide +kernel
theorem d_Md_isAbove_149 : decode c_Md_isAbove 149 = .ok (.aload_n 0, 1) := by decide +kernel
theorem d_Md_isAbove_150 : decode c_Md_isAbove 150 = .ok (.getfield 7, 3) := by decide +kernel
theorem d_Md_isAbove_153 : decode c_Md_isAbove 153 = .ok (.iload 4, 2) := by decide +kernel
theorem d_Md_isAbove_155 : decode c_Md_isAbove 155 = .ok (.iaload, 1) := by decide +kernel
theorem d_Md_isAbove_156 : decode c_Md_isAbove 156 = .ok (.if_icmp .le 7, 3) := by decide +kernel
theorem d_Md_isAbove_159 : decode c_Md_isAbove 159 = .ok (.iconst 1, 1) := by decide +kernel
theorem d_Md_isAbove_160 : decode c_Md_isAbove 160 = .ok (.goto 4, 3) := by decide +kernel
theorem d_Md_isAbove_163 : decode c_Md_isAbove 163 = .ok (.iconst 0, 1) := by decide +kernel
theorem d_Md_isAbove_164 : decode c_Md_isAbove 164 = .ok (.ireturn, 1) := by decide +kernel
theorem d_Md_isAbove_165 : decode c_Md_isAbove 165 = .ok (.aload_n 0, 1) := by decide +kernel
theorem d_Md_isAbove_166 : decode c_Md_isAbove 166 = .ok (.getfield 7, 3) := by decide +kernel
theorem d_Md_isAbove_169 : decode c_Md_isAbove 169 = .ok (.iload_n 3, 1) := by decide +kernel
theorem d_Md_isAbove_170 : decode c_Md_isAbove 170 = .ok (.iaload, 1) := by decide +kernel
theorem d_Md_isAbove_171 : decode c_Md_isAbove 171 = .ok (.aload_n 0, 1) := by decide +kernel
theorem d_Md_isAbove_172 : decode c_Md_isAbove 172 = .ok (.getfield 7, 3) := by decide +kernel
theorem d_Md_isAbove_175 : decode c_Md_isAbove 175 = .ok (.iload 4, 2) := by decide +kernel
theorem d_Md_isAbove_177 : decode c_Md_isAbove 177 = .ok (.iaload, 1) := by decide +kernel
theorem d_Md_isAbove_178 : decode c_Md_isAbove 178 = .ok (.if_icmp .eq 25, 3) := by decide +kernel
theorem d_Md_isAbove_181 : decode c_Md_isAbove 181 = .ok (.aload_n 0, 1) := by decide +kernel
theorem d_Md_isAbove_182 : decode c_Md_isAbove 182 = .ok (.getfield 7, 3) := by decide +kernel
theorem d_Md_isAbove_185 : decode c_Md_isAbove 185 = .ok (.iload_n 3, 1) := by decide +kernel
theorem d_Md_isAbove_186 : decode c_Md_isAbove 186 = .ok (.iaload, 1) := by decide +kernel
theorem d_Md_isAbove_187 : decode c_Md_isAbove 187 = .ok (.aload_n 0, 1) := by decide +kernel
theorem d_Md_isAbove_188 : decode c_Md_isAbove 188 = .ok (.getfield 7, 3) := by decide +kernel
theorem d_Md_isAbove_191 : decode c_Md_isAbove 191 = .ok (.iload 4, 2) := by decide +kernel
theorem d_Md_isAbove_193 : decode c_Md_isAbove 193 = .ok (.iaload, 1) := by decide +kernel
theorem d_Md_isAbove_194 : decode c_Md_isAbove 194 = .ok (.if_icmp .le 7, 3) := by decide +kernel
theorem d_Md_isAbove_197 : decode c_Md_isAbove 197 = .ok (.iconst 1, 1) := by decide +kernel
theorem d_Md_isAbove_198 : decode c_Md_isAbove 198 = .ok (.goto 4, 3) := by decide +kernel
theorem d_Md_isAbove_201 : decode c_Md_isAbove 201 = .ok (.iconst 0, 1) := by decide +kernel
theorem d_Md_isAbove_202 : decode c_Md_isAbove 202 = .ok (.ireturn, 1) := by decide +kernel
theorem d_Md_isAbove_203 : decode c_Md_isAbove 203 = .ok (.aload_n 0, 1) := by decide +kernel
theorem d_Md_isAbove_204 : decode c_Md_isAbove 204 = .ok (.getfield 13, 3) := by decide +kernel
theorem d_Md_isAbove_207 : decode c_Md_isAbove 207 = .ok (.iload_n 3, 1) := by decide +kernel
theorem d_Md_isAbove_208 : decode c_Md_isAbove 208 = .ok (.iaload, 1) := by decide +kernel
theorem d_Md_isAbove_209 : decode c_Md_isAbove 209 = .ok (.aload_n 0, 1) := by decide +kernel
theorem d_Md_isAbove_210 : decode c_Md_isAbove 210 = .ok (.getfield 13, 3) := by decide +kernel
theorem d_Md_isAbove_213 : decode c_Md_isAbove 213 = .ok (.iload 4, 2) := by decide +kernel
theorem d_Md_isAbove_215 : decode c_Md_isAbove 215 = .ok (.iaload, 1) := by decide +kernel
theorem d_Md_isAbove_216 : decode c_Md_isAbove 216 = .ok (.if_icmp .ne 7, 3) := by decide +kernel
theorem d_Md_isAbove_219 : decode c_Md_isAbove 219 = .ok (.iconst 1, 1) := by decide +kernel
theorem d_Md_isAbove_220 : decode c_Md_isAbove 220 = .ok (.goto 4, 3) := by decide +kernel
theorem d_Md_isAbove_223 : decode c_Md_isAbove 223 = .ok (.iconst 0, 1) := by decide +kernel
theorem d_Md_isAbove_224 : decode c_Md_isAbove 224 = .ok (.istore 7, 2) := by decide +kernel
theorem d_Md_isAbove_226 : decode c_Md_isAbove 226 = .ok (.iload 7, 2) := by decide +kernel
theorem d_Md_isAbove_228 : decode c_Md_isAbove 228 = .ok (.ifCond .eq 12, 3) := by decide +kernel
theorem d_Md_isAbove_231 : decode c_Md_isAbove 231 = .ok (.aload_n 0, 1) := by decide +kernel
theorem d_Md_isAbove_232 : decode c_Md_isAbove 232 = .ok (.getfield 16, 3) := by decide +kernel
theorem d_Md_isAbove_235 : decode c_Md_isAbove 235 = .ok (.iload_n 3, 1) := by decide +kernel
theorem d_Md_isAbove_236 : decode c_Md_isAbove 236 = .ok (.iaload, 1) := by decide +kernel
theorem d_Md_isAbove_237 : decode c_Md_isAbove 237 = .ok (.goto 9, 3) := by decide +kernel
theorem d_Md_isAbove_240 : decode c_Md_isAbove 240 = .ok (.aload_n 0, 1) := by decide +kernel
theorem d_Md_isAbove_241 : decode c_Md_isAbove 241 = .ok (.getfield 13, 3) := by decide +kernel
theorem d_Md_isAbove_244 : decode c_Md_isAbove 244 = .ok (.iload_n 3, 1) := by decide +kernel
theorem d_Md_isAbove_245 : decode c_Md_isAbove 245 = .ok (.iaload, 1) := by decide +kernel
theorem d_Md_isAbove_246 : decode c_Md_isAbove 246 = .ok (.istore 8, 2) := by decide +kernel
theorem d_Md_isAbove_248 : decode c_Md_isAbove 248 = .ok (.iload 7, 2) := by decide +kernel
theorem d_Md_isAbove_250 : decode c_Md_isAbove 250 = .ok (.ifCond .eq 13, 3) := by decide +kernel
theorem d_Md_isAbove_253 : decode c_Md_isAbove 253 = .ok (.aload_n 0, 1) := by decide +kernel
theorem d_Md_isAbove_254 : decode c_Md_isAbove 254 = .ok (.getfield 16, 3) := by decide +kernel
theorem d_Md_isAbove_257 : decode c_Md_isAbove 257 = .ok (.iload 4, 2) := by decide +kernel
theorem d_Md_isAbove_259 : decode c_Md_isAbove 259 = .ok (.iaload, 1) := by decide +kernel
theorem d_Md_isAbove_260 : decode c_Md_isAbove 260 = .ok (.goto 10, 3) := by decide +kernel
theorem d_Md_isAbove_263 : decode c_Md_isAbove 263 = .ok (.aload_n 0, 1) := by decide +kernel
theorem d_Md_isAbove_264 : decode c_Md_isAbove 264 = .ok (.getfield 13, 3) := by decide +kernel
theorem d_Md_isAbove_267 : decode c_Md_isAbove 267 = .ok (.iload 4, 2) := by decide +kernel
theorem d_Md_isAbove_269 : decode c_Md_isAbove 269 = .ok (.iaload, 1) := by decide +kernel
theorem d_Md_isAbove_270 : decode c_Md_isAbove 270 = .ok (.istore 4, 2) := by decide +kernel
theorem d_Md_isAbove_272 : decode c_Md_isAbove 272 = .ok (.iload 8, 2) := by decide +kernel
theorem d_Md_isAbove_274 : decode c_Md_isAbove 274 = .ok (.istore_n 3, 1) := by decide +kernel
theorem d_Md_isAbove_275 : decode c_Md_isAbove 275 = .ok (.goto (-270), 3) := by decide +kernel
theorem d_Md_isAbove_278 : decode c_Md_isAbove 278 = .ok (.iconst 0, 1) := by decide +kernel
theorem d_Md_isAbove_279 : decode c_Md_isAbove 279 = .ok (.ireturn, 1) := by decide +kernel
theorem d_Md_holesAllow_0 : decode c_Md_holesAllow 0 = .ok (.aload_n 0, 1) := by decide +kernel
theorem d_Md_holesAllow_1 : decode c_Md_holesAllow 1 = .ok (.iload_n 1, 1) := by decide +kernel
theorem d_Md_holesAllow_2 : decode c_Md_holesAllow 2 = .ok (.aload_n 0, 1) := by decide +kernel
theorem d_Md_holesAllow_3 : decode c_Md_holesAllow 3 = .ok (.getfield 71, 3) := by decide +kernel
theorem d_Md_holesAllow_6 : decode c_Md_holesAllow 6 = .ok (.invokevirtual 121, 3) := by decide +kernel
theorem d_Md_holesAllow_9 : decode c_Md_holesAllow 9 = .ok (.aload_n 0, 1) := by decide +kernel
theorem d_Md_holesAllow_10 : decode c_Md_holesAllow 10 = .ok (.iload_n 2, 1) := by decide +kernel
theorem d_Md_holesAllow_11 : decode c_Md_holesAllow 11 = .ok (.aload_n 0, 1) := by decide +kernel
theorem d_Md_holesAllow_12 : decode c_Md_holesAllow 12 = .ok (.getfield 74, 3) := by decide +kernel
theorem d_Md_holesAllow_15 : decode c_Md_holesAllow 15 = .ok (.invokevirtual 121, 3) := by decide +kernel
theorem d_Md_holesAllow_18 : decode c_Md_holesAllow 18 = .ok (.iconst 0, 1) := by decide +kernel
theorem d_Md_holesAllow_19 : decode c_Md_holesAllow 19 = .ok (.istore_n 3, 1) := by decide +kernel
theorem d_Md_holesAllow_20 : decode c_Md_holesAllow 20 = .ok (.iload_n 3, 1) := by decide +kernel
theorem d_Md_holesAllow_21 : decode c_Md_holesAllow 21 = .ok (.bipush 6, 2) := by decide +kernel
theorem d_Md_holesAllow_23 : decode c_Md_holesAllow 23 = .ok (.if_icmp .ge 26, 3) := by decide +kernel
theorem d_Md_holesAllow_26 : decode c_Md_holesAllow 26 = .ok (.aload_n 0, 1) := by decide +kernel
theorem d_Md_holesAllow_27 : decode c_Md_holesAllow 27 = .ok (.getfield 71, 3) := by decide +kernel
theorem d_Md_holesAllow_30 : decode c_Md_holesAllow 30 = .ok (.iload_n 3, 1) := by decide +kernel
theorem d_Md_holesAllow_31 : decode c_Md_holesAllow 31 = .ok (.iaload, 1) := by decide +kernel
theorem d_Md_holesAllow_32 : decode c_Md_holesAllow 32 = .ok (.aload_n 0, 1) := by decide +kernel
theorem d_Md_holesAllow_33 : decode c_Md_holesAllow 33 = .ok (.getfield 74, 3) := by decide +kernel
theorem d_Md_holesAllow_36 : decode c_Md_holesAllow 36 = .ok (.iload_n 3, 1) := by decide +kernel
theorem d_Md_holesAllow_37 : decode c_Md_holesAllow 37 = .ok (.iaload, 1) := by decide +kernel
theorem d_Md_holesAllow_38 : decode c_Md_holesAllow 38 = .ok (.if_icmp .ge 5, 3) := by decide +kernel
theorem d_Md_holesAllow_41 : decode c_Md_holesAllow 41 = .ok (.iconst 0, 1) := by decide +kernel
theorem d_Md_holesAllow_42 : decode c_Md_holesAllow 42 = .ok (.ireturn, 1) := by decide +kernel
theorem d_Md_holesAllow_43 : decode c_Md_holesAllow 43 = .ok (.iinc 3 1, 3) := by decide +kernel
theorem d_Md_holesAllow_46 : decode c_Md_holesAllow 46 = .ok (.goto (-26), 3) := by decide +kernel
theorem d_Md_holesAllow_49 : decode c_Md_holesAllow 49 = .ok (.iconst 1, 1) := by decide +kernel
theorem d_Md_holesAllow_50 : decode c_Md_holesAllow 50 = .ok (.ireturn, 1) := by decide +kernel
theorem d_Md_countHoles_0 : decode c_Md_countHoles 0 = .ok (.iconst 0, 1) := by decide +kernel
theorem d_Md_countHoles_1 : decode c_Md_countHoles 1 = .ok (.istore_n 3, 1) := by decide +kernel
theorem d_Md_countHoles_2 : decode c_Md_countHoles 2 = .ok (.iload_n 3, 1) := by decide +kernel
theorem d_Md_countHoles_3 : decode c_Md_countHoles 3 = .ok (.bipush 6, 2) := by decide +kernel
theorem d_Md_countHoles_5 : decode c_Md_countHoles 5 = .ok (.if_icmp .ge 13, 3) := by decide +kernel
theorem d_Md_countHoles_8 : decode c_Md_countHoles 8 = .ok (.aload_n 2, 1) := by decide +kernel
theorem d_Md_countHoles_9 : decode c_Md_countHoles 9 = .ok (.iload_n 3, 1) := by decide +kernel
theorem d_Md_countHoles_10 : decode c_Md_countHoles 10 = .ok (.iconst 0, 1) := by decide +kernel
theorem d_Md_countHoles_11 : decode c_Md_countHoles 11 = .ok (.iastore, 1) := by decide +kernel
theorem d_Md_countHoles_12 : decode c_Md_countHoles 12 = .ok (.iinc 3 1, 3) := by decide +kernel
theorem d_Md_countHoles_15 : decode c_Md_countHoles 15 = .ok (.goto (-13), 3) := by decide +kernel
theorem d_Md_countHoles_18 : decode c_Md_countHoles 18 = .ok (.aload_n 0, 1) := by decide +kernel
theorem d_Md_countHoles_19 : decode c_Md_countHoles 19 = .ok (.iload_n 1, 1) := by decide +kernel
theorem d_Md_countHoles_20 : decode c_Md_countHoles 20 = .ok (.aload_n 0, 1) := by decide +kernel
theorem d_Md_countHoles_21 : decode c_Md_countHoles 21 = .ok (.getfield 59, 3) := by decide +kernel
theorem d_Md_countHoles_24 : decode c_Md_countHoles 24 = .ok (.iconst 0, 1) := by decide +kernel
theorem d_Md_countHoles_25 : decode c_Md_countHoles 25 = .ok (.invokevirtual 117, 3) := by decide +kernel
theorem d_Md_countHoles_28 : decode c_Md_countHoles 28 = .ok (.istore_n 3, 1) := by decide +kernel
theorem d_Md_countHoles_29 : decode c_Md_countHoles 29 = .ok (.iconst 0, 1) := by decide +kernel
theorem d_Md_countHoles_30 : decode c_Md_countHoles 30 = .ok (.istore 4, 2) := by decide +kernel
theorem d_Md_countHoles_32 : decode c_Md_countHoles 32 = .ok (.iload 4, 2) := by decide +kernel
theorem d_Md_countHoles_34 : decode c_Md_countHoles 34 = .ok (.iload_n 3, 1) := by decide +kernel
theorem d_Md_countHoles_35 : decode c_Md_countHoles 35 = .ok (.if_icmp .ge 49, 3) := by decide +kernel
theorem d_Md_countHoles_38 : decode c_Md_countHoles 38 = .ok (.aload_n 0, 1) := by decide +kernel
theorem d_Md_countHoles_39 : decode c_Md_countHoles 39 = .ok (.getfield 7, 3) := by decide +kernel
theorem d_Md_countHoles_42 : decode c_Md_countHoles 42 = .ok (.aload_n 0, 1) := by decide +kernel
theorem d_Md_countHoles_43 : decode c_Md_countHoles 43 = .ok (.getfield 59, 3) := by decide +kernel
theorem d_Md_countHoles_46 : decode c_Md_countHoles 46 = .ok (.iload 4, 2) := by decide +kernel
theorem d_Md_countHoles_48 : decode c_Md_countHoles 48 = .ok (.iaload, 1) := by decide +kernel
theorem d_Md_countHoles_49 : decode c_Md_countHoles 49 = .ok (.iaload, 1) := by decide +kernel
theorem d_Md_countHoles_50 : decode c_Md_countHoles 50 = .ok (.sipush 200, 3) := by decide +kernel
theorem d_Md_countHoles_53 : decode c_Md_countHoles 53 = .ok (.if_icmp .lt 25, 3) := by decide +kernel
theorem d_Md_countHoles_56 : decode c_Md_countHoles 56 = .ok (.aload_n 2, 1) := by decide +kernel
theorem d_Md_countHoles_57 : decode c_Md_countHoles 57 = .ok (.aload_n 0, 1) := by decide +kernel
theorem d_Md_countHoles_58 : decode c_Md_countHoles 58 = .ok (.getfield 7, 3) := by decide +kernel
theorem d_Md_countHoles_61 : decode c_Md_countHoles 61 = .ok (.aload_n 0, 1) := by decide +kernel
theorem d_Md_countHoles_62 : decode c_Md_countHoles 62 = .ok (.getfield 59, 3) := by decide +kernel
theorem d_Md_countHoles_65 : decode c_Md_countHoles 65 = .ok (.iload 4, 2) := by decide +kernel
theorem d_Md_countHoles_67 : decode c_Md_countHoles 67 = .ok (.iaload, 1) := by decide +kernel
theorem d_Md_countHoles_68 : decode c_Md_countHoles 68 = .ok (.iaload, 1) := by decide +kernel
theorem d_Md_countHoles_69 : decode c_Md_countHoles 69 = .ok (.sipush 200, 3) := by decide +kernel
theorem d_Md_countHoles_72 : decode c_Md_countHoles 72 = .ok (.isub, 1) := by decide +kernel
theorem d_Md_countHoles_73 : decode c_Md_countHoles 73 = .ok (.dup2, 1) := by decide +kernel
theorem d_Md_countHoles_74 : decode c_Md_countHoles 74 = .ok (.iaload, 1) := by decide +kernel
theorem d_Md_countHoles_75 : decode c_Md_countHoles 75 = .ok (.iconst 1, 1) := by decide +kernel
theorem d_Md_countHoles_76 : decode c_Md_countHoles 76 = .ok (.iadd, 1) := by decide +kernel
theorem d_Md_countHoles_77 : decode c_Md_countHoles 77 = .ok (.iastore, 1) := by decide +kernel
theorem d_Md_countHoles_78 : decode c_Md_countHoles 78 = .ok (.iinc 4 1, 3) := by decide +kernel
theorem d_Md_countHoles_81 : decode c_Md_countHoles 81 = .ok (.goto (-49), 3) := by decide +kernel
theorem d_Md_countHoles_84 : decode c_Md_countHoles 84 = .ok (.return_, 1) := by decide +kernel
theorem d_Md_lay_0 : decode c_Md_lay 0 = .ok (.iconst 0, 1) := by decide +kernel
theorem d_Md_lay_1 : decode c_Md_lay 1 = .ok (.istore 4, 2) := by decide +kernel
theorem d_Md_lay_3 : decode c_Md_lay 3 = .ok (.iconst 1, 1) := by decide +kernel
theorem d_Md_lay_4 : decode c_Md_lay 4 = .ok (.istore 5, 2) := by decide +kernel
theorem d_Md_lay_6 : decode c_Md_lay 6 = .ok (.aload_n 0, 1) := by decide +kernel
theorem d_Md_lay_7 : decode c_Md_lay 7 = .ok (.getfield 62, 3) := by decide +kernel
theorem d_Md_lay_10 : decode c_Md_lay 10 = .ok (.iconst 0, 1) := by decide +kernel
theorem d_Md_lay_11 : decode c_Md_lay 11 = .ok (.iload_n 1, 1) := by decide +kernel
theorem d_Md_lay_12 : decode c_Md_lay 12 = .ok (.iastore, 1) := by decide +kernel
theorem d_Md_lay_13 : decode c_Md_lay 13 = .ok (.iload 5, 2) := by decide +kernel
theorem d_Md_lay_15 : decode c_Md_lay 15 = .ok (.ifCond .le 88, 3) := by decide +kernel
theorem d_Md_lay_18 : decode c_Md_lay 18 = .ok (.iinc 5 (-1), 3) := by decide +kernel
theorem d_Md_lay_21 : decode c_Md_lay 21 = .ok (.aload_n 0, 1) := by decide +kernel
theorem d_Md_lay_22 : decode c_Md_lay 22 = .ok (.getfield 62, 3) := by decide +kernel
theorem d_Md_lay_25 : decode c_Md_lay 25 = .ok (.iload 5, 2) := by decide +kernel
theorem d_Md_lay_27 : decode c_Md_lay 27 = .ok (.iaload, 1) := by decide +kernel
theorem d_Md_lay_28 : decode c_Md_lay 28 = .ok (.istore 6, 2) := by decide +kernel
theorem d_Md_lay_30 : decode c_Md_lay 30 = .ok (.aload_n 2, 1) := by decide +kernel
theorem d_Md_lay_31 : decode c_Md_lay 31 = .ok (.iload 4, 2) := by decide +kernel
theorem d_Md_lay_33 : decode c_Md_lay 33 = .ok (.iload 6, 2) := by decide +kernel
theorem d_Md_lay_35 : decode c_Md_lay 35 = .ok (.iastore, 1) := by decide +kernel
theorem d_Md_lay_36 : decode c_Md_lay 36 = .ok (.iinc 4 1, 3) := by decide +kernel
theorem d_Md_lay_39 : decode c_Md_lay 39 = .ok (.aload_n 0, 1) := by decide +kernel
theorem d_Md_lay_40 : decode c_Md_lay 40 = .ok (.getfield 7, 3) := by decide +kernel
theorem d_Md_lay_43 : decode c_Md_lay 43 = .ok (.iload 6, 2) := by decide +kernel
theorem d_Md_lay_45 : decode c_Md_lay 45 = .ok (.iaload, 1) := by decide +kernel
theorem d_Md_lay_46 : decode c_Md_lay 46 = .ok (.invokestatic 93, 3) := by decide +kernel
theorem d_Md_lay_49 : decode c_Md_lay 49 = .ok (.iconst 2, 1) := by decide +kernel
theorem d_Md_lay_50 : decode c_Md_lay 50 = .ok (.if_icmp .ne 20, 3) := by decide +kernel
theorem d_Md_lay_53 : decode c_Md_lay 53 = .ok (.aload_n 0, 1) := by decide +kernel
theorem d_Md_lay_54 : decode c_Md_lay 54 = .ok (.getfield 62, 3) := by decide +kernel
theorem d_Md_lay_57 : decode c_Md_lay 57 = .ok (.iload 5, 2) := by decide +kernel
theorem d_Md_lay_59 : decode c_Md_lay 59 = .ok (.aload_n 0, 1) := by decide +kernel
theorem d_Md_lay_60 : decode c_Md_lay 60 = .ok (.getfield 16, 3) := by decide +kernel
theorem d_Md_lay_63 : decode c_Md_lay 63 = .ok (.iload 6, 2) := by decide +kernel
theorem d_Md_lay_65 : decode c_Md_lay 65 = .ok (.iaload, 1) := by decide +kernel
theorem d_Md_lay_66 : decode c_Md_lay 66 = .ok (.iastore, 1) := by decide +kernel
theorem d_Md_lay_67 : decode c_Md_lay 67 = .ok (.iinc 5 1, 3) := by decide +kernel
theorem d_Md_lay_70 : decode c_Md_lay 70 = .ok (.aload_n 0, 1) := by decide +kernel
theorem d_Md_lay_71 : decode c_Md_lay 71 = .ok (.getfield 7, 3) := by decide +kernel
theorem d_Md_lay_74 : decode c_Md_lay 74 = .ok (.iload 6, 2) := by decide +kernel
theorem d_Md_lay_76 : decode c_Md_lay 76 = .ok (.iaload, 1) := by decide +kernel
theorem d_Md_lay_77 : decode c_Md_lay 77 = .ok (.invokestatic 93, 3) := by decide +kernel
theorem d_Md_lay_80 : decode c_Md_lay 80 = .ok (.ifCond .le 20, 3) := by decide +kernel
theorem d_Md_lay_83 : decode c_Md_lay 83 = .ok (.aload_n 0, 1) := by decide +kernel
theorem d_Md_lay_84 : decode c_Md_lay 84 = .ok (.getfield 62, 3) := by decide +kernel
theorem d_Md_lay_87 : decode c_Md_lay 87 = .ok (.iload 5, 2) := by decide +kernel
theorem d_Md_lay_89 : decode c_Md_lay 89 = .ok (.aload_n 0, 1) := by decide +kernel
theorem d_Md_lay_90 : decode c_Md_lay 90 = .ok (.getfield 13, 3) := by decide +kernel
theorem d_Md_lay_93 : decode c_Md_lay 93 = .ok (.iload 6, 2) := by decide +kernel
theorem d_Md_lay_95 : decode c_Md_lay 95 = .ok (.iaload, 1) := by decide +kernel
theorem d_Md_lay_96 : decode c_Md_lay 96 = .ok (.iastore, 1) := by decide +kernel
theorem d_Md_lay_97 : decode c_Md_lay 97 = .ok (.iinc 5 1, 3) := by decide +kernel
theorem d_Md_lay_100 : decode c_Md_lay 100 = .ok (.goto (-87), 3) := by decide +kernel
theorem d_Md_lay_103 : decode c_Md_lay 103 = .ok (.iload_n 3, 1) := by decide +kernel
theorem d_Md_lay_104 : decode c_Md_lay 104 = .ok (.ifCond .eq 9, 3) := by decide +kernel
theorem d_Md_lay_107 : decode c_Md_lay 107 = .ok (.aload_n 0, 1) := by decide +kernel
theorem d_Md_lay_108 : decode c_Md_lay 108 = .ok (.iload 4, 2) := by decide +kernel
theorem d_Md_lay_110 : decode c_Md_lay 110 = .ok (.invokevirtual 113, 3) := by decide +kernel
theorem d_Md_lay_113 : decode c_Md_lay 113 = .ok (.iload 4, 2) := by decide +kernel
theorem d_Md_lay_115 : decode c_Md_lay 115 = .ok (.ireturn, 1) := by decide +kernel
theorem d_Md_findAround_0 : decode c_Md_findAround 0 = .ok (.aload_n 0, 1) := by decide +kernel
theorem d_Md_findAround_1 : decode c_Md_findAround 1 = .ok (.getfield 56, 3) := by decide +kernel
theorem d_Md_findAround_4 : decode c_Md_findAround 4 = .ok (.iconst 0, 1) := by decide +kernel
theorem d_Md_findAround_5 : decode c_Md_findAround 5 = .ok (.iconst (-1), 1) := by decide +kernel
theorem d_Md_findAround_6 : decode c_Md_findAround 6 = .ok (.iastore, 1) := by decide +kernel
theorem d_Md_findAround_7 : decode c_Md_findAround 7 = .ok (.iconst 0, 1) := by decide +kernel
theorem d_Md_findAround_8 : decode c_Md_findAround 8 = .ok (.istore_n 2, 1) := by decide +kernel
theorem d_Md_findAround_9 : decode c_Md_findAround 9 = .ok (.iload_n 2, 1) := by decide +kernel
theorem d_Md_findAround_10 : decode c_Md_findAround 10 = .ok (.iload_n 1, 1) := by decide +kernel
theorem d_Md_findAround_11 : decode c_Md_findAround 11 = .ok (.if_icmp .ge 71, 3) := by decide +kernel
theorem d_Md_findAround_14 : decode c_Md_findAround 14 = .ok (.aload_n 0, 1) := by decide +kernel
theorem d_Md_findAround_15 : decode c_Md_findAround 15 = .ok (.getfield 53, 3) := by decide +kernel
theorem d_Md_findAround_18 : decode c_Md_findAround 18 = .ok (.iload_n 2, 1) := by decide +kernel
theorem d_Md_findAround_19 : decode c_Md_findAround 19 = .ok (.iaload, 1) := by decide +kernel
theorem d_Md_findAround_20 : decode c_Md_findAround 20 = .ok (.istore_n 3, 1) := by decide +kernel
theorem d_Md_findAround_21 : decode c_Md_findAround 21 = .ok (.aload_n 0, 1) := by decide +kernel
theorem d_Md_findAround_22 : decode c_Md_findAround 22 = .ok (.getfield 7, 3) := by decide +kernel
theorem d_Md_findAround_25 : decode c_Md_findAround 25 = .ok (.iload_n 3, 1) := by decide +kernel
theorem d_Md_findAround_26 : decode c_Md_findAround 26 = .ok (.iaload, 1) := by decide +kernel
theorem d_Md_findAround_27 : decode c_Md_findAround 27 = .ok (.invokestatic 93, 3) := by decide +kernel
theorem d_Md_findAround_30 : decode c_Md_findAround 30 = .ok (.ifCond .le 12, 3) := by decide +kernel
theorem d_Md_findAround_33 : decode c_Md_findAround 33 = .ok (.aload_n 0, 1) := by decide +kernel
theorem d_Md_findAround_34 : decode c_Md_findAround 34 = .ok (.getfield 56, 3) := by decide +kernel
theorem d_Md_findAround_37 : decode c_Md_findAround 37 = .ok (.iload_n 2, 1) := by decide +kernel
theorem d_Md_findAround_38 : decode c_Md_findAround 38 = .ok (.iconst 1, 1) := by decide +kernel
theorem d_Md_findAround_39 : decode c_Md_findAround 39 = .ok (.iadd, 1) := by decide +kernel
theorem d_Md_findAround_40 : decode c_Md_findAround 40 = .ok (.iload_n 2, 1) := by decide +kernel
theorem d_Md_findAround_41 : decode c_Md_findAround 41 = .ok (.iastore, 1) := by decide +kernel
theorem d_Md_findAround_42 : decode c_Md_findAround 42 = .ok (.aload_n 0, 1) := by decide +kernel
theorem d_Md_findAround_43 : decode c_Md_findAround 43 = .ok (.getfield 7, 3) := by decide +kernel
theorem d_Md_findAround_46 : decode c_Md_findAround 46 = .ok (.iload_n 3, 1) := by decide +kernel
theorem d_Md_findAround_47 : decode c_Md_findAround 47 = .ok (.iaload, 1) := by decide +kernel
theorem d_Md_findAround_48 : decode c_Md_findAround 48 = .ok (.invokestatic 93, 3) := by decide +kernel
theorem d_Md_findAround_51 : decode c_Md_findAround 51 = .ok (.iconst 2, 1) := by decide +kernel
theorem d_Md_findAround_52 : decode c_Md_findAround 52 = .ok (.if_icmp .ne 24, 3) := by decide +kernel
theorem d_Md_findAround_55 : decode c_Md_findAround 55 = .ok (.aload_n 0, 1) := by decide +kernel
theorem d_Md_findAround_56 : decode c_Md_findAround 56 = .ok (.getfield 56, 3) := by decide +kernel
theorem d_Md_findAround_59 : decode c_Md_findAround 59 = .ok (.iload_n 2, 1) := by decide +kernel
theorem d_Md_findAround_60 : decode c_Md_findAround 60 = .ok (.iconst 1, 1) := by decide +kernel
theorem d_Md_findAround_61 : decode c_Md_findAround 61 = .ok (.iadd, 1) := by decide +kernel
theorem d_Md_findAround_62 : decode c_Md_findAround 62 = .ok (.aload_n 0, 1) := by decide +kernel
theorem d_Md_findAround_63 : decode c_Md_findAround 63 = .ok (.getfield 22, 3) := by decide +kernel
theorem d_Md_findAround_66 : decode c_Md_findAround 66 = .ok (.aload_n 0, 1) := by decide +kernel
theorem d_Md_findAround_67 : decode c_Md_findAround 67 = .ok (.getfield 13, 3) := by decide +kernel
theorem d_Md_findAround_70 : decode c_Md_findAround 70 = .ok (.iload_n 3, 1) := by decide +kernel
theorem d_Md_findAround_71 : decode c_Md_findAround 71 = .ok (.iaload, 1) := by decide +kernel
theorem d_Md_findAround_72 : decode c_Md_findAround 72 = .ok (.iaload, 1) := by decide +kernel
theorem d_Md_findAround_73 : decode c_Md_findAround 73 = .ok (.iadd, 1) := by decide +kernel
theorem d_Md_findAround_74 : decode c_Md_findAround 74 = .ok (.iload_n 2, 1) := by decide +kernel
theorem d_Md_findAround_75 : decode c_Md_findAround 75 = .ok (.iastore, 1) := by decide +kernel
theorem d_Md_findAround_76 : decode c_Md_findAround 76 = .ok (.iinc 2 1, 3) := by decide +kernel
theorem d_Md_findAround_79 : decode c_Md_findAround 79 = .ok (.goto (-70), 3) := by decide +kernel
theorem d_Md_findAround_82 : decode c_Md_findAround 82 = .ok (.return_, 1) := by decide +kernel
theorem d_Md_rewrite_0 : decode c_Md_rewrite 0 = .ok (.aload_n 0, 1) := by decide +kernel
theorem d_Md_rewrite_1 : decode c_Md_rewrite 1 = .ok (.aload_n 0, 1) := by decide +kernel
theorem d_Md_rewrite_2 : decode c_Md_rewrite 2 = .ok (.iload_n 1, 1) := by decide +kernel
theorem d_Md_rewrite_3 : decode c_Md_rewrite 3 = .ok (.invokevirtual 109, 3) := by decide +kernel
theorem d_Md_rewrite_6 : decode c_Md_rewrite 6 = .ok (.ifCond .ne 7, 3) := by decide +kernel
theorem d_Md_rewrite_9 : decode c_Md_rewrite 9 = .ok (.iconst 1, 1) := by decide +kernel
theorem d_Md_rewrite_10 : decode c_Md_rewrite 10 = .ok (.goto 28, 3) := by decide +kernel
theorem d_Md_rewrite_13 : decode c_Md_rewrite 13 = .ok (.aload_n 0, 1) := by decide +kernel
theorem d_Md_rewrite_14 : decode c_Md_rewrite 14 = .ok (.getfield 28, 3) := by decide +kernel
theorem d_Md_rewrite_17 : decode c_Md_rewrite 17 = .ok (.iload_n 1, 1) := by decide +kernel
theorem d_Md_rewrite_18 : decode c_Md_rewrite 18 = .ok (.iaload, 1) := by decide +kernel
theorem d_Md_rewrite_19 : decode c_Md_rewrite 19 = .ok (.ifCond .ne 14, 3) := by decide +kernel
theorem d_Md_rewrite_22 : decode c_Md_rewrite 22 = .ok (.iload_n 2, 1) := by decide +kernel
theorem d_Md_rewrite_23 : decode c_Md_rewrite 23 = .ok (.ifCond .lt 10, 3) := by decide +kernel
theorem d_Md_rewrite_26 : decode c_Md_rewrite 26 = .ok (.iload_n 2, 1) := by decide +kernel
theorem d_Md_rewrite_27 : decode c_Md_rewrite 27 = .ok (.sipush 200, 3) := by decide +kernel
theorem d_Md_rewrite_30 : decode c_Md_rewrite 30 = .ok (.if_icmp .le 7, 3) := by decide +kernel
theorem d_Md_rewrite_33 : decode c_Md_rewrite 33 = .ok (.iconst 2, 1) := by decide +kernel
theorem d_Md_rewrite_34 : decode c_Md_rewrite 34 = .ok (.goto 4, 3) := by decide +kernel
theorem d_Md_rewrite_37 : decode c_Md_rewrite 37 = .ok (.iconst 0, 1) := by decide +kernel
theorem d_Md_rewrite_38 : decode c_Md_rewrite 38 = .ok (.putfield 86, 3) := by decide +kernel
theorem d_Md_rewrite_41 : decode c_Md_rewrite 41 = .ok (.aload_n 0, 1) := by decide +kernel
theorem d_Md_rewrite_42 : decode c_Md_rewrite 42 = .ok (.getfield 86, 3) := by decide +kernel
theorem d_Md_rewrite_45 : decode c_Md_rewrite 45 = .ok (.ifCond .eq 5, 3) := by decide +kernel
theorem d_Md_rewrite_48 : decode c_Md_rewrite 48 = .ok (.iconst 0, 1) := by decide +kernel
theorem d_Md_rewrite_49 : decode c_Md_rewrite 49 = .ok (.ireturn, 1) := by decide +kernel
theorem d_Md_rewrite_50 : decode c_Md_rewrite 50 = .ok (.aload_n 0, 1) := by decide +kernel
theorem d_Md_rewrite_51 : decode c_Md_rewrite 51 = .ok (.iconst 0, 1) := by decide +kernel
theorem d_Md_rewrite_52 : decode c_Md_rewrite 52 = .ok (.invokevirtual 176, 3) := by decide +kernel
theorem d_Md_rewrite_55 : decode c_Md_rewrite 55 = .ok (.aload_n 0, 1) := by decide +kernel
theorem d_Md_rewrite_56 : decode c_Md_rewrite 56 = .ok (.iload_n 1, 1) := by decide +kernel
theorem d_Md_rewrite_57 : decode c_Md_rewrite 57 = .ok (.iload_n 2, 1) := by decide +kernel
theorem d_Md_rewrite_58 : decode c_Md_rewrite 58 = .ok (.invokevirtual 180, 3) := by decide +kernel
theorem d_Md_rewrite_61 : decode c_Md_rewrite 61 = .ok (.istore_n 3, 1) := by decide +kernel
theorem d_Md_rewrite_62 : decode c_Md_rewrite 62 = .ok (.aload_n 0, 1) := by decide +kernel
theorem d_Md_rewrite_63 : decode c_Md_rewrite 63 = .ok (.aload_n 0, 1) := by decide +kernel
theorem d_Md_rewrite_64 : decode c_Md_rewrite 64 = .ok (.getfield 97, 3) := by decide +kernel
theorem d_Md_rewrite_67 : decode c_Md_rewrite 67 = .ok (.ifCond .eq 7, 3) := by decide +kernel
theorem d_Md_rewrite_70 : decode c_Md_rewrite 70 = .ok (.iconst 3, 1) := by decide +kernel
theorem d_Md_rewrite_71 : decode c_Md_rewrite 71 = .ok (.goto 4, 3) := by decide +kernel
theorem d_Md_rewrite_74 : decode c_Md_rewrite 74 = .ok (.iconst 0, 1) := by decide +kernel
theorem d_Md_rewrite_75 : decode c_Md_rewrite 75 = .ok (.putfield 86, 3) := by decide +kernel
theorem d_Md_rewrite_78 : decode c_Md_rewrite 78 = .ok (.aload_n 0, 1) := by decide +kernel
theorem d_Md_rewrite_79 : decode c_Md_rewrite 79 = .ok (.getfield 97, 3) := by decide +kernel
theorem d_Md_rewrite_82 : decode c_Md_rewrite 82 = .ok (.ifCond .eq 5, 3) := by decide +kernel
theorem d_Md_rewrite_85 : decode c_Md_rewrite 85 = .ok (.iconst 0, 1) := by decide +kernel
theorem d_Md_rewrite_86 : decode c_Md_rewrite 86 = .ok (.ireturn, 1) := by decide +kernel
theorem d_Md_rewrite_87 : decode c_Md_rewrite 87 = .ok (.aload_n 0, 1) := by decide +kernel
theorem d_Md_rewrite_88 : decode c_Md_rewrite 88 = .ok (.invokevirtual 183, 3) := by decide +kernel
theorem d_Md_rewrite_91 : decode c_Md_rewrite 91 = .ok (.aload_n 0, 1) := by decide +kernel
theorem d_Md_rewrite_92 : decode c_Md_rewrite 92 = .ok (.aload_n 0, 1) := by decide +kernel
theorem d_Md_rewrite_93 : decode c_Md_rewrite 93 = .ok (.getfield 167, 3) := by decide +kernel
theorem d_Md_rewrite_96 : decode c_Md_rewrite 96 = .ok (.putfield 186, 3) := by decide +kernel
theorem d_Md_rewrite_99 : decode c_Md_rewrite 99 = .ok (.iload_n 3, 1) := by decide +kernel
theorem d_Md_rewrite_100 : decode c_Md_rewrite 100 = .ok (.ireturn, 1) := by decide +kernel
theorem d_Md_lookForRules_0 : decode c_Md_lookForRules 0 = .ok (.iconst 0, 1) := by decide +kernel
theorem d_Md_lookForRules_1 : decode c_Md_lookForRules 1 = .ok (.istore_n 2, 1) := by decide +kernel
theorem d_Md_lookForRules_2 : decode c_Md_lookForRules 2 = .ok (.iload_n 2, 1) := by decide +kernel
theorem d_Md_lookForRules_3 : decode c_Md_lookForRules 3 = .ok (.aload_n 0, 1) := by decide +kernel
theorem d_Md_lookForRules_4 : decode c_Md_lookForRules 4 = .ok (.getfield 129, 3) := by decide +kernel
theorem d_Md_lookForRules_7 : decode c_Md_lookForRules 7 = .ok (.if_icmp .ge 51, 3) := by decide +kernel
theorem d_Md_lookForRules_10 : decode c_Md_lookForRules 10 = .ok (.aload_n 0, 1) := by decide +kernel
theorem d_Md_lookForRules_11 : decode c_Md_lookForRules 11 = .ok (.getfield 83, 3) := by decide +kernel
theorem d_Md_lookForRules_14 : decode c_Md_lookForRules 14 = .ok (.iload_n 2, 1) := by decide +kernel
theorem d_Md_lookForRules_15 : decode c_Md_lookForRules 15 = .ok (.aload_n 0, 1) := by decide +kernel
theorem d_Md_lookForRules_16 : decode c_Md_lookForRules 16 = .ok (.iload_n 2, 1) := by decide +kernel
theorem d_Md_lookForRules_17 : decode c_Md_lookForRules 17 = .ok (.invokevirtual 135, 3) := by decide +kernel
theorem d_Md_lookForRules_20 : decode c_Md_lookForRules 20 = .ok (.ifCond .eq 30, 3) := by decide +kernel
theorem d_Md_lookForRules_23 : decode c_Md_lookForRules 23 = .ok (.iload_n 1, 1) := by decide +kernel
theorem d_Md_lookForRules_24 : decode c_Md_lookForRules 24 = .ok (.ifCond .eq 22, 3) := by decide +kernel
theorem d_Md_lookForRules_27 : decode c_Md_lookForRules 27 = .ok (.aload_n 0, 1) := by decide +kernel
theorem d_Md_lookForRules_28 : decode c_Md_lookForRules 28 = .ok (.aload_n 0, 1) := by decide +kernel
theorem d_Md_lookForRules_29 : decode c_Md_lookForRules 29 = .ok (.getfield 31, 3) := by decide +kernel
theorem d_Md_lookForRules_32 : decode c_Md_lookForRules 32 = .ok (.iload_n 2, 1) := by decide +kernel
theorem d_Md_lookForRules_33 : decode c_Md_lookForRules 33 = .ok (.iaload, 1) := by decide +kernel
theorem d_Md_lookForRules_34 : decode c_Md_lookForRules 34 = .ok (.aload_n 0, 1) := by decide +kernel
theorem d_Md_lookForRules_35 : decode c_Md_lookForRules 35 = .ok (.getfield 34, 3) := by decide +kernel
theorem d_Md_lookForRules_38 : decode c_Md_lookForRules 38 = .ok (.iload_n 2, 1) := by decide +kernel
theorem d_Md_lookForRules_39 : decode c_Md_lookForRules 39 = .ok (.iaload, 1) := by decide +kernel
theorem d_Md_lookForRules_40 : decode c_Md_lookForRules 40 = .ok (.invokevirtual 138, 3) := by decide +kernel
theorem d_Md_lookForRules_43 : decode c_Md_lookForRules 43 = .ok (.ifCond .eq 7, 3) := by decide +kernel
theorem d_Md_lookForRules_46 : decode c_Md_lookForRules 46 = .ok (.iconst 1, 1) := by decide +kernel
theorem d_Md_lookForRules_47 : decode c_Md_lookForRules 47 = .ok (.goto 4, 3) := by decide +kernel
theorem d_Md_lookForRules_50 : decode c_Md_lookForRules 50 = .ok (.iconst 0, 1) := by decide +kernel
theorem d_Md_lookForRules_51 : decode c_Md_lookForRules 51 = .ok (.bastore, 1) := by decide +kernel
theorem d_Md_lookForRules_52 : decode c_Md_lookForRules 52 = .ok (.iinc 2 1, 3) := by decide +kernel
theorem d_Md_lookForRules_55 : decode c_Md_lookForRules 55 = .ok (.goto (-53), 3) := by decide +kernel
theorem d_Md_lookForRules_58 : decode c_Md_lookForRules 58 = .ok (.return_, 1) := by decide +kernel
theorem d_Md_go_0 : decode c_Md_go 0 = .ok (.aload_n 0, 1) := by decide +kernel
theorem d_Md_go_1 : decode c_Md_go 1 = .ok (.getfield 90, 3) := by decide +kernel
theorem d_Md_go_4 : decode c_Md_go 4 = .ok (.istore_n 3, 1) := by decide +kernel
theorem d_Md_go_5 : decode c_Md_go 5 = .ok (.aload_n 0, 1) := by decide +kernel
theorem d_Md_go_6 : decode c_Md_go 6 = .ok (.iconst 0, 1) := by decide +kernel
theorem d_Md_go_7 : decode c_Md_go 7 = .ok (.putfield 97, 3) := by decide +kernel
theorem d_Md_go_10 : decode c_Md_go 10 = .ok (.aload_n 0, 1) := by decide +kernel
theorem d_Md_go_11 : decode c_Md_go 11 = .ok (.iconst 0, 1) := by decide +kernel
theorem d_Md_go_12 : decode c_Md_go 12 = .ok (.putfield 150, 3) := by decide +kernel
theorem d_Md_go_15 : decode c_Md_go 15 = .ok (.aload_n 0, 1) := by decide +kernel
theorem d_Md_go_16 : decode c_Md_go 16 = .ok (.iconst 0, 1) := by decide +kernel
theorem d_Md_go_17 : decode c_Md_go 17 = .ok (.putfield 147, 3) := by decide +kernel
theorem d_Md_go_20 : decode c_Md_go 20 = .ok (.iload_n 1, 1) := by decide +kernel
theorem d_Md_go_21 : decode c_Md_go 21 = .ok (.istore 4, 2) := by decide +kernel
theorem d_Md_go_23 : decode c_Md_go 23 = .ok (.aload_n 0, 1) := by decide +kernel
theorem d_Md_go_24 : decode c_Md_go 24 = .ok (.iload 4, 2) := by decide +kernel
theorem d_Md_go_26 : decode c_Md_go 26 = .ok (.invokevirtual 153, 3) := by decide +kernel
theorem d_Md_go_29 : decode c_Md_go 29 = .ok (.istore 5, 2) := by decide +kernel
theorem d_Md_go_31 : decode c_Md_go 31 = .ok (.iload 5, 2) := by decide +kernel
theorem d_Md_go_33 : decode c_Md_go 33 = .ok (.iconst (-1), 1) := by decide +kernel
theorem d_Md_go_34 : decode c_Md_go 34 = .ok (.if_icmp .eq 94, 3) := by decide +kernel
theorem d_Md_go_37 : decode c_Md_go 37 = .ok (.aload_n 0, 1) := by decide +kernel
theorem d_Md_go_38 : decode c_Md_go 38 = .ok (.getfield 147, 3) := by decide +kernel
theorem d_Md_go_41 : decode c_Md_go 41 = .ok (.iload_n 2, 1) := by decide +kernel
theorem d_Md_go_42 : decode c_Md_go 42 = .ok (.if_icmp .eq 86, 3) := by decide +kernel
theorem d_Md_go_45 : decode c_Md_go 45 = .ok (.aload_n 0, 1) := by decide +kernel
theorem d_Md_go_46 : decode c_Md_go 46 = .ok (.getfield 97, 3) := by decide +kernel
theorem d_Md_go_49 : decode c_Md_go 49 = .ok (.ifCond .ne 79, 3) := by decide +kernel
theorem d_Md_go_52 : decode c_Md_go 52 = .ok (.aload_n 0, 1) := by decide +kernel
theorem d_Md_go_53 : decode c_Md_go 53 = .ok (.iload 5, 2) := by decide +kernel
theorem d_Md_go_55 : decode c_Md_go 55 = .ok (.invokevirtual 144, 3) := by decide +kernel
theorem d_Md_go_58 : decode c_Md_go 58 = .ok (.istore 6, 2) := by decide +kernel
theorem d_Md_go_60 : decode c_Md_go 60 = .ok (.aload_n 0, 1) := by decide +kernel
theorem d_Md_go_61 : decode c_Md_go 61 = .ok (.aload_n 0, 1) := by decide +kernel
theorem d_Md_go_62 : decode c_Md_go 62 = .ok (.getfield 34, 3) := by decide +kernel
theorem d_Md_go_65 : decode c_Md_go 65 = .ok (.iload 6, 2) := by decide +kernel
theorem d_Md_go_67 : decode c_Md_go 67 = .ok (.iaload, 1) := by decide +kernel
theorem d_Md_go_68 : decode c_Md_go 68 = .ok (.invokevirtual 156, 3) := by decide +kernel
theorem d_Md_go_71 : decode c_Md_go 71 = .ok (.istore 7, 2) := by decide +kernel
theorem d_Md_go_73 : decode c_Md_go 73 = .ok (.aload_n 0, 1) := by decide +kernel
theorem d_Md_go_74 : decode c_Md_go 74 = .ok (.getfield 97, 3) := by decide +kernel
theorem d_Md_go_77 : decode c_Md_go 77 = .ok (.ifCond .eq 7, 3) := by decide +kernel
theorem d_Md_go_80 : decode c_Md_go 80 = .ok (.iconst (-1), 1) := by decide +kernel
theorem d_Md_go_81 : decode c_Md_go 81 = .ok (.goto 11, 3) := by decide +kernel
theorem d_Md_go_84 : decode c_Md_go 84 = .ok (.aload_n 0, 1) := by decide +kernel
theorem d_Md_go_85 : decode c_Md_go 85 = .ok (.iload 5, 2) := by decide +kernel
theorem d_Md_go_87 : decode c_Md_go 87 = .ok (.iload 7, 2) := by decide +kernel
theorem d_Md_go_89 : decode c_Md_go 89 = .ok (.invokevirtual 159, 3) := by decide +kernel
theorem d_Md_go_92 : decode c_Md_go 92 = .ok (.istore 8, 2) := by decide +kernel
theorem d_Md_go_94 : decode c_Md_go 94 = .ok (.aload_n 0, 1) := by decide +kernel
theorem d_Md_go_95 : decode c_Md_go 95 = .ok (.getfield 97, 3) := by decide +kernel
theorem d_Md_go_98 : decode c_Md_go 98 = .ok (.ifCond .ne 27, 3) := by decide +kernel
theorem d_Md_go_101 : decode c_Md_go 101 = .ok (.aload_n 0, 1) := by decide +kernel
theorem d_Md_go_102 : decode c_Md_go 102 = .ok (.iload 6, 2) := by decide +kernel
theorem d_Md_go_104 : decode c_Md_go 104 = .ok (.iload 5, 2) := by decide +kernel
theorem d_Md_go_106 : decode c_Md_go 106 = .ok (.iload 4, 2) := by decide +kernel
theorem d_Md_go_108 : decode c_Md_go 108 = .ok (.iload 8, 2) := by decide +kernel
theorem d_Md_go_110 : decode c_Md_go 110 = .ok (.invokevirtual 163, 3) := by decide +kernel
theorem d_Md_go_113 : decode c_Md_go 113 = .ok (.iload 8, 2) := by decide +kernel
theorem d_Md_go_115 : decode c_Md_go 115 = .ok (.istore 4, 2) := by decide +kernel
theorem d_Md_go_117 : decode c_Md_go 117 = .ok (.aload_n 0, 1) := by decide +kernel
theorem d_Md_go_118 : decode c_Md_go 118 = .ok (.iload 4, 2) := by decide +kernel
theorem d_Md_go_120 : decode c_Md_go 120 = .ok (.invokevirtual 153, 3) := by decide +kernel
theorem d_Md_go_123 : decode c_Md_go 123 = .ok (.istore 5, 2) := by decide +kernel
theorem d_Md_go_125 : decode c_Md_go 125 = .ok (.goto (-94), 3) := by decide +kernel
theorem d_Md_go_128 : decode c_Md_go 128 = .ok (.aload_n 0, 1) := by decide +kernel
theorem d_Md_go_129 : decode c_Md_go 129 = .ok (.getfield 97, 3) := by decide +kernel
theorem d_Md_go_132 : decode c_Md_go 132 = .ok (.ifCond .eq 11, 3) := by decide +kernel
theorem d_Md_go_135 : decode c_Md_go 135 = .ok (.aload_n 0, 1) := by decide +kernel
theorem d_Md_go_136 : decode c_Md_go 136 = .ok (.iload_n 3, 1) := by decide +kernel
theorem d_Md_go_137 : decode c_Md_go 137 = .ok (.putfield 90, 3) := by decide +kernel
theorem d_Md_go_140 : decode c_Md_go 140 = .ok (.goto 18, 3) := by decide +kernel
theorem d_Md_go_143 : decode c_Md_go 143 = .ok (.aload_n 0, 1) := by decide +kernel
theorem d_Md_go_144 : decode c_Md_go 144 = .ok (.iload 5, 2) := by decide +kernel
theorem d_Md_go_146 : decode c_Md_go 146 = .ok (.iconst (-1), 1) := by decide +kernel
theorem d_Md_go_147 : decode c_Md_go 147 = .ok (.if_icmp .eq 7, 3) := by decide +kernel
theorem d_Md_go_150 : decode c_Md_go 150 = .ok (.iconst 1, 1) := by decide +kernel
theorem d_Md_go_151 : decode c_Md_go 151 = .ok (.goto 4, 3) := by decide +kernel
theorem d_Md_go_154 : decode c_Md_go 154 = .ok (.iconst 0, 1) := by decide +kernel
theorem d_Md_go_155 : decode c_Md_go 155 = .ok (.putfield 167, 3) := by decide +kernel
theorem d_Md_go_158 : decode c_Md_go 158 = .ok (.iload 4, 2) := by decide +kernel
theorem d_Md_go_160 : decode c_Md_go 160 = .ok (.ireturn, 1) := by decide +kernel
theorem d_Md_placeOf_0 : decode c_Md_placeOf 0 = .ok (.aload_n 0, 1) := by decide +kernel
theorem d_Md_placeOf_1 : decode c_Md_placeOf 1 = .ok (.iload_n 1, 1) := by decide +kernel
theorem d_Md_placeOf_2 : decode c_Md_placeOf 2 = .ok (.aload_n 0, 1) := by decide +kernel
theorem d_Md_placeOf_3 : decode c_Md_placeOf 3 = .ok (.getfield 53, 3) := by decide +kernel
theorem d_Md_placeOf_6 : decode c_Md_placeOf 6 = .ok (.iconst 1, 1) := by decide +kernel
theorem d_Md_placeOf_7 : decode c_Md_placeOf 7 = .ok (.invokevirtual 117, 3) := by decide +kernel
theorem d_Md_placeOf_10 : decode c_Md_placeOf 10 = .ok (.istore_n 2, 1) := by decide +kernel
theorem d_Md_placeOf_11 : decode c_Md_placeOf 11 = .ok (.aload_n 0, 1) := by decide +kernel
theorem d_Md_placeOf_12 : decode c_Md_placeOf 12 = .ok (.getfield 80, 3) := by decide +kernel
theorem d_Md_placeOf_15 : decode c_Md_placeOf 15 = .ok (.iconst 0, 1) := by decide +kernel
theorem d_Md_placeOf_16 : decode c_Md_placeOf 16 = .ok (.iconst 0, 1) := by decide +kernel
theorem d_Md_placeOf_17 : decode c_Md_placeOf 17 = .ok (.iastore, 1) := by decide +kernel
theorem d_Md_placeOf_18 : decode c_Md_placeOf 18 = .ok (.iconst 0, 1) := by decide +kernel
theorem d_Md_placeOf_19 : decode c_Md_placeOf 19 = .ok (.istore_n 3, 1) := by decide +kernel
theorem d_Md_placeOf_20 : decode c_Md_placeOf 20 = .ok (.iload_n 3, 1) := by decide +kernel
theorem d_Md_placeOf_21 : decode c_Md_placeOf 21 = .ok (.iload_n 2, 1) := by decide +kernel
theorem d_Md_placeOf_22 : decode c_Md_placeOf 22 = .ok (.if_icmp .ge 58, 3) := by decide +kernel
theorem d_Md_placeOf_25 : decode c_Md_placeOf 25 = .ok (.aload_n 0, 1) := by decide +kernel
theorem d_Md_placeOf_26 : decode c_Md_placeOf 26 = .ok (.getfield 77, 3) := by decide +kernel
theorem d_Md_placeOf_29 : decode c_Md_placeOf 29 = .ok (.iload_n 3, 1) := by decide +kernel
theorem d_Md_placeOf_30 : decode c_Md_placeOf 30 = .ok (.aload_n 0, 1) := by decide +kernel
theorem d_Md_placeOf_31 : decode c_Md_placeOf 31 = .ok (.iload_n 3, 1) := by decide +kernel
theorem d_Md_placeOf_32 : decode c_Md_placeOf 32 = .ok (.invokevirtual 144, 3) := by decide +kernel
theorem d_Md_placeOf_35 : decode c_Md_placeOf 35 = .ok (.iconst (-1), 1) := by decide +kernel
theorem d_Md_placeOf_36 : decode c_Md_placeOf 36 = .ok (.if_icmp .eq 7, 3) := by decide +kernel
theorem d_Md_placeOf_39 : decode c_Md_placeOf 39 = .ok (.iconst 1, 1) := by decide +kernel
theorem d_Md_placeOf_40 : decode c_Md_placeOf 40 = .ok (.goto 4, 3) := by decide +kernel
theorem d_Md_placeOf_43 : decode c_Md_placeOf 43 = .ok (.iconst 0, 1) := by decide +kernel
theorem d_Md_placeOf_44 : decode c_Md_placeOf 44 = .ok (.bastore, 1) := by decide +kernel
theorem d_Md_placeOf_45 : decode c_Md_placeOf 45 = .ok (.aload_n 0, 1) := by decide +kernel
theorem d_Md_placeOf_46 : decode c_Md_placeOf 46 = .ok (.getfield 80, 3) := by decide +kernel
theorem d_Md_placeOf_49 : decode c_Md_placeOf 49 = .ok (.iload_n 3, 1) := by decide +kernel
theorem d_Md_placeOf_50 : decode c_Md_placeOf 50 = .ok (.iconst 1, 1) := by decide +kernel
theorem d_Md_placeOf_51 : decode c_Md_placeOf 51 = .ok (.iadd, 1) := by decide +kernel
theorem d_Md_placeOf_52 : decode c_Md_placeOf 52 = .ok (.aload_n 0, 1) := by decide +kernel
theorem d_Md_placeOf_53 : decode c_Md_placeOf 53 = .ok (.getfield 80, 3) := by decide +kernel
theorem d_Md_placeOf_56 : decode c_Md_placeOf 56 = .ok (.iload_n 3, 1) := by decide +kernel
theorem d_Md_placeOf_57 : decode c_Md_placeOf 57 = .ok (.iaload, 1) := by decide +kernel
theorem d_Md_placeOf_58 : decode c_Md_placeOf 58 = .ok (.aload_n 0, 1) := by decide +kernel
theorem d_Md_placeOf_59 : decode c_Md_placeOf 59 = .ok (.getfield 77, 3) := by decide +kernel
theorem d_Md_placeOf_62 : decode c_Md_placeOf 62 = .ok (.iload_n 3, 1) := by decide +kernel
theorem d_Md_placeOf_63 : decode c_Md_placeOf 63 = .ok (.baload, 1) := by decide +kernel
theorem d_Md_placeOf_64 : decode c_Md_placeOf 64 = .ok (.ifCond .eq 7, 3) := by decide +kernel
theorem d_Md_placeOf_67 : decode c_Md_placeOf 67 = .ok (.iconst 1, 1) := by decide +kernel
theorem d_Md_placeOf_68 : decode c_Md_placeOf 68 = .ok (.goto 4, 3) := by decide +kernel
theorem d_Md_placeOf_71 : decode c_Md_placeOf 71 = .ok (.iconst 0, 1) := by decide +kernel
theorem d_Md_placeOf_72 : decode c_Md_placeOf 72 = .ok (.iadd, 1) := by decide +kernel
theorem d_Md_placeOf_73 : decode c_Md_placeOf 73 = .ok (.iastore, 1) := by decide +kernel
theorem d_Md_placeOf_74 : decode c_Md_placeOf 74 = .ok (.iinc 3 1, 3) := by decide +kernel
theorem d_Md_placeOf_77 : decode c_Md_placeOf 77 = .ok (.goto (-57), 3) := by decide +kernel
theorem d_Md_placeOf_80 : decode c_Md_placeOf 80 = .ok (.iconst 0, 1) := by decide +kernel
theorem d_Md_placeOf_81 : decode c_Md_placeOf 81 = .ok (.istore_n 3, 1) := by decide +kernel
theorem d_Md_placeOf_82 : decode c_Md_placeOf 82 = .ok (.iload_n 3, 1) := by decide +kernel
theorem d_Md_placeOf_83 : decode c_Md_placeOf 83 = .ok (.iload_n 2, 1) := by decide +kernel
theorem d_Md_placeOf_84 : decode c_Md_placeOf 84 = .ok (.if_icmp .ge 49, 3) := by decide +kernel
theorem d_Md_placeOf_87 : decode c_Md_placeOf 87 = .ok (.aload_n 0, 1) := by decide +kernel
theorem d_Md_placeOf_88 : decode c_Md_placeOf 88 = .ok (.getfield 77, 3) := by decide +kernel
theorem d_Md_placeOf_91 : decode c_Md_placeOf 91 = .ok (.iload_n 3, 1) := by decide +kernel
theorem d_Md_placeOf_92 : decode c_Md_placeOf 92 = .ok (.baload, 1) := by decide +kernel
theorem d_Md_placeOf_93 : decode c_Md_placeOf 93 = .ok (.ifCond .eq 34, 3) := by decide +kernel
theorem d_Md_placeOf_96 : decode c_Md_placeOf 96 = .ok (.aload_n 0, 1) := by decide +kernel
theorem d_Md_placeOf_97 : decode c_Md_placeOf 97 = .ok (.getfield 80, 3) := by decide +kernel
theorem d_Md_placeOf_100 : decode c_Md_placeOf 100 = .ok (.iload_n 3, 1) := by decide +kernel
theorem d_Md_placeOf_101 : decode c_Md_placeOf 101 = .ok (.aload_n 0, 1) := by decide +kernel
theorem d_Md_placeOf_102 : decode c_Md_placeOf 102 = .ok (.getfield 22, 3) := by decide +kernel
theorem d_Md_placeOf_105 : decode c_Md_placeOf 105 = .ok (.aload_n 0, 1) := by decide +kernel
theorem d_Md_placeOf_106 : decode c_Md_placeOf 106 = .ok (.getfield 53, 3) := by decide +kernel
theorem d_Md_placeOf_109 : decode c_Md_placeOf 109 = .ok (.iload_n 3, 1) := by decide +kernel
theorem d_Md_placeOf_110 : decode c_Md_placeOf 110 = .ok (.iaload, 1) := by decide +kernel
theorem d_Md_placeOf_111 : decode c_Md_placeOf 111 = .ok (.iaload, 1) := by decide +kernel
theorem d_Md_placeOf_112 : decode c_Md_placeOf 112 = .ok (.iadd, 1) := by decide +kernel
theorem d_Md_placeOf_113 : decode c_Md_placeOf 113 = .ok (.iaload, 1) := by decide +kernel
theorem d_Md_placeOf_114 : decode c_Md_placeOf 114 = .ok (.aload_n 0, 1) := by decide +kernel
theorem d_Md_placeOf_115 : decode c_Md_placeOf 115 = .ok (.getfield 80, 3) := by decide +kernel
theorem d_Md_placeOf_118 : decode c_Md_placeOf 118 = .ok (.iload_n 3, 1) := by decide +kernel
theorem d_Md_placeOf_119 : decode c_Md_placeOf 119 = .ok (.iconst 1, 1) := by decide +kernel
theorem d_Md_placeOf_120 : decode c_Md_placeOf 120 = .ok (.iadd, 1) := by decide +kernel
theorem d_Md_placeOf_121 : decode c_Md_placeOf 121 = .ok (.iaload, 1) := by decide +kernel
theorem d_Md_placeOf_122 : decode c_Md_placeOf 122 = .ok (.if_icmp .ne 5, 3) := by decide +kernel
theorem d_Md_placeOf_125 : decode c_Md_placeOf 125 = .ok (.iload_n 3, 1) := by decide +kernel
theorem d_Md_placeOf_126 : decode c_Md_placeOf 126 = .ok (.ireturn, 1) := by decide +kernel
theorem d_Md_placeOf_127 : decode c_Md_placeOf 127 = .ok (.iinc 3 1, 3) := by decide +kernel
theorem d_Md_placeOf_130 : decode c_Md_placeOf 130 = .ok (.goto (-48), 3) := by decide +kernel
theorem d_Md_placeOf_133 : decode c_Md_placeOf 133 = .ok (.iconst (-1), 1) := by decide +kernel
theorem d_Md_placeOf_134 : decode c_Md_placeOf 134 = .ok (.ireturn, 1) := by decide +kernel
theorem d_Md_ruleAt_0 : decode c_Md_ruleAt 0 = .ok (.iconst 0, 1) := by decide +kernel
theorem d_Md_ruleAt_1 : decode c_Md_ruleAt 1 = .ok (.istore_n 2, 1) := by decide +kernel
theorem d_Md_ruleAt_2 : decode c_Md_ruleAt 2 = .ok (.iload_n 2, 1) := by decide +kernel
theorem d_Md_ruleAt_3 : decode c_Md_ruleAt 3 = .ok (.aload_n 0, 1) := by decide +kernel
theorem d_Md_ruleAt_4 : decode c_Md_ruleAt 4 = .ok (.getfield 129, 3) := by decide +kernel
theorem d_Md_ruleAt_7 : decode c_Md_ruleAt 7 = .ok (.if_icmp .ge 34, 3) := by decide +kernel
theorem d_Md_ruleAt_10 : decode c_Md_ruleAt 10 = .ok (.aload_n 0, 1) := by decide +kernel
theorem d_Md_ruleAt_11 : decode c_Md_ruleAt 11 = .ok (.getfield 83, 3) := by decide +kernel
theorem d_Md_ruleAt_14 : decode c_Md_ruleAt 14 = .ok (.iload_n 2, 1) := by decide +kernel
theorem d_Md_ruleAt_15 : decode c_Md_ruleAt 15 = .ok (.baload, 1) := by decide +kernel
theorem d_Md_ruleAt_16 : decode c_Md_ruleAt 16 = .ok (.ifCond .eq 19, 3) := by decide +kernel
theorem d_Md_ruleAt_19 : decode c_Md_ruleAt 19 = .ok (.aload_n 0, 1) := by decide +kernel
theorem d_Md_ruleAt_20 : decode c_Md_ruleAt 20 = .ok (.aload_n 0, 1) := by decide +kernel
theorem d_Md_ruleAt_21 : decode c_Md_ruleAt 21 = .ok (.getfield 31, 3) := by decide +kernel
theorem d_Md_ruleAt_24 : decode c_Md_ruleAt 24 = .ok (.iload_n 2, 1) := by decide +kernel
theorem d_Md_ruleAt_25 : decode c_Md_ruleAt 25 = .ok (.iaload, 1) := by decide +kernel
theorem d_Md_ruleAt_26 : decode c_Md_ruleAt 26 = .ok (.iload_n 1, 1) := by decide +kernel
theorem d_Md_ruleAt_27 : decode c_Md_ruleAt 27 = .ok (.invokevirtual 141, 3) := by decide +kernel
theorem d_Md_ruleAt_30 : decode c_Md_ruleAt 30 = .ok (.ifCond .eq 5, 3) := by decide +kernel
theorem d_Md_ruleAt_33 : decode c_Md_ruleAt 33 = .ok (.iload_n 2, 1) := by decide +kernel
theorem d_Md_ruleAt_34 : decode c_Md_ruleAt 34 = .ok (.ireturn, 1) := by decide +kernel
theorem d_Md_ruleAt_35 : decode c_Md_ruleAt 35 = .ok (.iinc 2 1, 3) := by decide +kernel
theorem d_Md_ruleAt_38 : decode c_Md_ruleAt 38 = .ok (.goto (-36), 3) := by decide +kernel
theorem d_Md_ruleAt_41 : decode c_Md_ruleAt 41 = .ok (.iconst (-1), 1) := by decide +kernel
theorem d_Md_ruleAt_42 : decode c_Md_ruleAt 42 = .ok (.ireturn, 1) := by decide +kernel
theorem d_Md_matches_0 : decode c_Md_matches 0 = .ok (.iconst 0, 1) := by decide +kernel
theorem d_Md_matches_1 : decode c_Md_matches 1 = .ok (.istore_n 3, 1) := by decide +kernel
theorem d_Md_matches_2 : decode c_Md_matches 2 = .ok (.iload_n 3, 1) := by decide +kernel
theorem d_Md_matches_3 : decode c_Md_matches 3 = .ok (.bipush 6, 2) := by decide +kernel
theorem d_Md_matches_5 : decode c_Md_matches 5 = .ok (.if_icmp .ge 16, 3) := by decide +kernel
theorem d_Md_matches_8 : decode c_Md_matches 8 = .ok (.aload_n 0, 1) := by decide +kernel
theorem d_Md_matches_9 : decode c_Md_matches 9 = .ok (.getfield 65, 3) := by decide +kernel
theorem d_Md_matches_12 : decode c_Md_matches 12 = .ok (.iload_n 3, 1) := by decide +kernel
theorem d_Md_matches_13 : decode c_Md_matches 13 = .ok (.iconst (-1), 1) := by decide +kernel
theorem d_Md_matches_14 : decode c_Md_matches 14 = .ok (.iastore, 1) := by decide +kernel
theorem d_Md_matches_15 : decode c_Md_matches 15 = .ok (.iinc 3 1, 3) := by decide +kernel
theorem d_Md_matches_18 : decode c_Md_matches 18 = .ok (.goto (-16), 3) := by decide +kernel
theorem d_Md_matches_21 : decode c_Md_matches 21 = .ok (.aload_n 0, 1) := by decide +kernel
theorem d_Md_matches_22 : decode c_Md_matches 22 = .ok (.iload_n 1, 1) := by decide +kernel
theorem d_Md_matches_23 : decode c_Md_matches 23 = .ok (.aload_n 0, 1) := by decide +kernel
theorem d_Md_matches_24 : decode c_Md_matches 24 = .ok (.getfield 59, 3) := by decide +kernel
theorem d_Md_matches_27 : decode c_Md_matches 27 = .ok (.iconst 0, 1) := by decide +kernel
theorem d_Md_matches_28 : decode c_Md_matches 28 = .ok (.invokevirtual 117, 3) := by decide +kernel
theorem d_Md_matches_31 : decode c_Md_matches 31 = .ok (.istore_n 3, 1) := by decide +kernel
theorem d_Md_matches_32 : decode c_Md_matches 32 = .ok (.iload_n 2, 1) := by decide +kernel
theorem d_Md_matches_33 : decode c_Md_matches 33 = .ok (.istore 4, 2) := by decide +kernel
theorem d_Md_matches_35 : decode c_Md_matches 35 = .ok (.iconst 0, 1) := by decide +kernel
theorem d_Md_matches_36 : decode c_Md_matches 36 = .ok (.istore 5, 2) := by decide +kernel
theorem d_Md_matches_38 : decode c_Md_matches 38 = .ok (.iload 5, 2) := by decide +kernel
theorem d_Md_matches_40 : decode c_Md_matches 40 = .ok (.iload_n 3, 1) := by decide +kernel
theorem d_Md_matches_41 : decode c_Md_matches 41 = .ok (.if_icmp .ge 124, 3) := by decide +kernel
theorem d_Md_matches_44 : decode c_Md_matches 44 = .ok (.aload_n 0, 1) := by decide +kernel
theorem d_Md_matches_45 : decode c_Md_matches 45 = .ok (.getfield 59, 3) := by decide +kernel
theorem d_Md_matches_48 : decode c_Md_matches 48 = .ok (.iload 5, 2) := by decide +kernel
theorem d_Md_matches_50 : decode c_Md_matches 50 = .ok (.iaload, 1) := by decide +kernel
theorem d_Md_matches_51 : decode c_Md_matches 51 = .ok (.istore 6, 2) := by decide +kernel
theorem d_Md_matches_53 : decode c_Md_matches 53 = .ok (.aload_n 0, 1) := by decide +kernel
theorem d_Md_matches_54 : decode c_Md_matches 54 = .ok (.getfield 53, 3) := by decide +kernel
theorem d_Md_matches_57 : decode c_Md_matches 57 = .ok (.iload 4, 2) := by decide +kernel
theorem d_Md_matches_59 : decode c_Md_matches 59 = .ok (.iaload, 1) := by decide +kernel
theorem d_Md_matches_60 : decode c_Md_matches 60 = .ok (.istore 7, 2) := by decide +kernel
theorem d_Md_matches_62 : decode c_Md_matches 62 = .ok (.aload_n 0, 1) := by decide +kernel
theorem d_Md_matches_63 : decode c_Md_matches 63 = .ok (.getfield 7, 3) := by decide +kernel
theorem d_Md_matches_66 : decode c_Md_matches 66 = .ok (.iload 6, 2) := by decide +kernel
theorem d_Md_matches_68 : decode c_Md_matches 68 = .ok (.iaload, 1) := by decide +kernel
theorem d_Md_matches_69 : decode c_Md_matches 69 = .ok (.sipush 200, 3) := by decide +kernel
theorem d_Md_matches_72 : decode c_Md_matches 72 = .ok (.if_icmp .lt 65, 3) := by decide +kernel
theorem d_Md_matches_75 : decode c_Md_matches 75 = .ok (.aload_n 0, 1) := by decide +kernel
theorem d_Md_matches_76 : decode c_Md_matches 76 = .ok (.getfield 7, 3) := by decide +kernel
theorem d_Md_matches_79 : decode c_Md_matches 79 = .ok (.iload 6, 2) := by decide +kernel
theorem d_Md_matches_81 : decode c_Md_matches 81 = .ok (.iaload, 1) := by decide +kernel
theorem d_Md_matches_82 : decode c_Md_matches 82 = .ok (.sipush 200, 3) := by decide +kernel
theorem d_Md_matches_85 : decode c_Md_matches 85 = .ok (.isub, 1) := by decide +kernel
theorem d_Md_matches_86 : decode c_Md_matches 86 = .ok (.istore 8, 2) := by decide +kernel
theorem d_Md_matches_88 : decode c_Md_matches 88 = .ok (.aload_n 0, 1) := by decide +kernel
theorem d_Md_matches_89 : decode c_Md_matches 89 = .ok (.getfield 65, 3) := by decide +kernel
theorem d_Md_matches_92 : decode c_Md_matches 92 = .ok (.iload 8, 2) := by decide +kernel
theorem d_Md_matches_94 : decode c_Md_matches 94 = .ok (.iaload, 1) := by decide +kernel
theorem d_Md_matches_95 : decode c_Md_matches 95 = .ok (.iconst (-1), 1) := by decide +kernel
theorem d_Md_matches_96 : decode c_Md_matches 96 = .ok (.if_icmp .eq 17, 3) := by decide +kernel
theorem d_Md_matches_99 : decode c_Md_matches 99 = .ok (.aload_n 0, 1) := by decide +kernel
theorem d_Md_matches_100 : decode c_Md_matches 100 = .ok (.getfield 65, 3) := by decide +kernel
theorem d_Md_matches_103 : decode c_Md_matches 103 = .ok (.iload 8, 2) := by decide +kernel
theorem d_Md_matches_105 : decode c_Md_matches 105 = .ok (.iaload, 1) := by decide +kernel
theorem d_Md_matches_106 : decode c_Md_matches 106 = .ok (.iload 7, 2) := by decide +kernel
theorem d_Md_matches_108 : decode c_Md_matches 108 = .ok (.if_icmp .eq 5, 3) := by decide +kernel
theorem d_Md_matches_111 : decode c_Md_matches 111 = .ok (.iconst 0, 1) := by decide +kernel
theorem d_Md_matches_112 : decode c_Md_matches 112 = .ok (.ireturn, 1) := by decide +kernel
theorem d_Md_matches_113 : decode c_Md_matches 113 = .ok (.aload_n 0, 1) := by decide +kernel
theorem d_Md_matches_114 : decode c_Md_matches 114 = .ok (.getfield 65, 3) := by decide +kernel
theorem d_Md_matches_117 : decode c_Md_matches 117 = .ok (.iload 8, 2) := by decide +kernel
theorem d_Md_matches_119 : decode c_Md_matches 119 = .ok (.iload 7, 2) := by decide +kernel
theorem d_Md_matches_121 : decode c_Md_matches 121 = .ok (.iastore, 1) := by decide +kernel
theorem d_Md_matches_122 : decode c_Md_matches 122 = .ok (.iload 4, 2) := by decide +kernel
theorem d_Md_matches_124 : decode c_Md_matches 124 = .ok (.aload_n 0, 1) := by decide +kernel
theorem d_Md_matches_125 : decode c_Md_matches 125 = .ok (.getfield 22, 3) := by decide +kernel
theorem d_Md_matches_128 : decode c_Md_matches 128 = .ok (.iload 7, 2) := by decide +kernel
theorem d_Md_matches_130 : decode c_Md_matches 130 = .ok (.iaload, 1) := by decide +kernel
theorem d_Md_matches_131 : decode c_Md_matches 131 = .ok (.iadd, 1) := by decide +kernel
theorem d_Md_matches_132 : decode c_Md_matches 132 = .ok (.istore 4, 2) := by decide +kernel
theorem d_Md_matches_134 : decode c_Md_matches 134 = .ok (.goto 25, 3) := by decide +kernel
theorem d_Md_matches_137 : decode c_Md_matches 137 = .ok (.aload_n 0, 1) := by decide +kernel
theorem d_Md_matches_138 : decode c_Md_matches 138 = .ok (.getfield 7, 3) := by decide +kernel
theorem d_Md_matches_141 : decode c_Md_matches 141 = .ok (.iload 6, 2) := by decide +kernel
theorem d_Md_matches_143 : decode c_Md_matches 143 = .ok (.iaload, 1) := by decide +kernel
theorem d_Md_matches_144 : decode c_Md_matches 144 = .ok (.aload_n 0, 1) := by decide +kernel
theorem d_Md_matches_145 : decode c_Md_matches 145 = .ok (.getfield 7, 3) := by decide +kernel
theorem d_Md_matches_148 : decode c_Md_matches 148 = .ok (.iload 7, 2) := by decide +kernel
theorem d_Md_matches_150 : decode c_Md_matches 150 = .ok (.iaload, 1) := by decide +kernel
theorem d_Md_matches_151 : decode c_Md_matches 151 = .ok (.if_icmp .eq 5, 3) := by decide +kernel
theorem d_Md_matches_154 : decode c_Md_matches 154 = .ok (.iconst 0, 1) := by decide +kernel
theorem d_Md_matches_155 : decode c_Md_matches 155 = .ok (.ireturn, 1) := by decide +kernel
theorem d_Md_matches_156 : decode c_Md_matches 156 = .ok (.iinc 4 1, 3) := by decide +kernel
theorem d_Md_matches_159 : decode c_Md_matches 159 = .ok (.iinc 5 1, 3) := by decide +kernel
theorem d_Md_matches_162 : decode c_Md_matches 162 = .ok (.goto (-124), 3) := by decide +kernel
theorem d_Md_matches_165 : decode c_Md_matches 165 = .ok (.iconst 1, 1) := by decide +kernel
theorem d_Md_matches_166 : decode c_Md_matches 166 = .ok (.ireturn, 1) := by decide +kernel
theorem d_Md_build_0 : decode c_Md_build 0 = .ok (.iconst 1, 1) := by decide +kernel
theorem d_Md_build_1 : decode c_Md_build 1 = .ok (.istore_n 2, 1) := by decide +kernel
theorem d_Md_build_2 : decode c_Md_build 2 = .ok (.iconst 0, 1) := by decide +kernel
theorem d_Md_build_3 : decode c_Md_build 3 = .ok (.istore_n 3, 1) := by decide +kernel
theorem d_Md_build_4 : decode c_Md_build 4 = .ok (.aload_n 0, 1) := by decide +kernel
theorem d_Md_build_5 : decode c_Md_build 5 = .ok (.getfield 62, 3) := by decide +kernel
theorem d_Md_build_8 : decode c_Md_build 8 = .ok (.iconst 0, 1) := by decide +kernel
theorem d_Md_build_9 : decode c_Md_build 9 = .ok (.iload_n 1, 1) := by decide +kernel
theorem d_Md_build_10 : decode c_Md_build 10 = .ok (.iastore, 1) := by decide +kernel
theorem d_Md_build_11 : decode c_Md_build 11 = .ok (.iload_n 2, 1) := by decide +kernel
theorem d_Md_build_12 : decode c_Md_build 12 = .ok (.ifCond .le 210, 3) := by decide +kernel
theorem d_Md_build_15 : decode c_Md_build 15 = .ok (.aload_n 0, 1) := by decide +kernel
theorem d_Md_build_16 : decode c_Md_build 16 = .ok (.getfield 97, 3) := by decide +kernel
theorem d_Md_build_19 : decode c_Md_build 19 = .ok (.ifCond .ne 203, 3) := by decide +kernel
theorem d_Md_build_22 : decode c_Md_build 22 = .ok (.iinc 2 (-1), 3) := by decide +kernel
theorem d_Md_build_25 : decode c_Md_build 25 = .ok (.aload_n 0, 1) := by decide +kernel
theorem d_Md_build_26 : decode c_Md_build 26 = .ok (.getfield 62, 3) := by decide +kernel
theorem d_Md_build_29 : decode c_Md_build 29 = .ok (.iload_n 2, 1) := by decide +kernel
theorem d_Md_build_30 : decode c_Md_build 30 = .ok (.iaload, 1) := by decide +kernel
theorem d_Md_build_31 : decode c_Md_build 31 = .ok (.istore 4, 2) := by decide +kernel
theorem d_Md_build_33 : decode c_Md_build 33 = .ok (.iload 4, 2) := by decide +kernel
theorem d_Md_build_35 : decode c_Md_build 35 = .ok (.ifCond .ge 66, 3) := by decide +kernel
theorem d_Md_build_38 : decode c_Md_build 38 = .ok (.aload_n 0, 1) := by decide +kernel
theorem d_Md_build_39 : decode c_Md_build 39 = .ok (.getfield 7, 3) := by decide +kernel
theorem d_Md_build_42 : decode c_Md_build 42 = .ok (.iconst (-1), 1) := by decide +kernel
theorem d_Md_build_43 : decode c_Md_build 43 = .ok (.iload 4, 2) := by decide +kernel
theorem d_Md_build_45 : decode c_Md_build 45 = .ok (.isub, 1) := by decide +kernel
theorem d_Md_build_46 : decode c_Md_build 46 = .ok (.iaload, 1) := by decide +kernel
theorem d_Md_build_47 : decode c_Md_build 47 = .ok (.istore 5, 2) := by decide +kernel
theorem d_Md_build_49 : decode c_Md_build 49 = .ok (.iconst (-1), 1) := by decide +kernel
theorem d_Md_build_50 : decode c_Md_build 50 = .ok (.istore 6, 2) := by decide +kernel
theorem d_Md_build_52 : decode c_Md_build 52 = .ok (.iload 5, 2) := by decide +kernel
theorem d_Md_build_54 : decode c_Md_build 54 = .ok (.invokestatic 93, 3) := by decide +kernel
theorem d_Md_build_57 : decode c_Md_build 57 = .ok (.iconst 2, 1) := by decide +kernel
theorem d_Md_build_58 : decode c_Md_build 58 = .ok (.if_icmp .ne 14, 3) := by decide +kernel
theorem d_Md_build_61 : decode c_Md_build 61 = .ok (.iinc 3 (-1), 3) := by decide +kernel
theorem d_Md_build_64 : decode c_Md_build 64 = .ok (.aload_n 0, 1) := by decide +kernel
theorem d_Md_build_65 : decode c_Md_build 65 = .ok (.getfield 68, 3) := by decide +kernel
theorem d_Md_build_68 : decode c_Md_build 68 = .ok (.iload_n 3, 1) := by decide +kernel
theorem d_Md_build_69 : decode c_Md_build 69 = .ok (.iaload, 1) := by decide +kernel
theorem d_Md_build_70 : decode c_Md_build 70 = .ok (.istore 6, 2) := by decide +kernel
theorem d_Md_build_72 : decode c_Md_build 72 = .ok (.iinc 3 (-1), 3) := by decide +kernel
theorem d_Md_build_75 : decode c_Md_build 75 = .ok (.aload_n 0, 1) := by decide +kernel
theorem d_Md_build_76 : decode c_Md_build 76 = .ok (.getfield 68, 3) := by decide +kernel
theorem d_Md_build_79 : decode c_Md_build 79 = .ok (.iload_n 3, 1) := by decide +kernel
theorem d_Md_build_80 : decode c_Md_build 80 = .ok (.aload_n 0, 1) := by decide +kernel
theorem d_Md_build_81 : decode c_Md_build 81 = .ok (.iload 5, 2) := by decide +kernel
theorem d_Md_build_83 : decode c_Md_build 83 = .ok (.aload_n 0, 1) := by decide +kernel
theorem d_Md_build_84 : decode c_Md_build 84 = .ok (.getfield 68, 3) := by decide +kernel
theorem d_Md_build_87 : decode c_Md_build 87 = .ok (.iload_n 3, 1) := by decide +kernel
theorem d_Md_build_88 : decode c_Md_build 88 = .ok (.iaload, 1) := by decide +kernel
theorem d_Md_build_89 : decode c_Md_build 89 = .ok (.iload 6, 2) := by decide +kernel
theorem d_Md_build_91 : decode c_Md_build 91 = .ok (.invokevirtual 101, 3) := by decide +kernel
theorem d_Md_build_94 : decode c_Md_build 94 = .ok (.iastore, 1) := by decide +kernel
theorem d_Md_build_95 : decode c_Md_build 95 = .ok (.iinc 3 1, 3) := by decide +kernel
theorem d_Md_build_98 : decode c_Md_build 98 = .ok (.goto 121, 3) := by decide +kernel
theorem d_Md_build_101 : decode c_Md_build 101 = .ok (.aload_n 0, 1) := by decide +kernel
theorem d_Md_build_102 : decode c_Md_build 102 = .ok (.getfield 7, 3) := by decide +kernel
theorem d_Md_build_105 : decode c_Md_build 105 = .ok (.iload 4, 2) := by decide +kernel
theorem d_Md_build_107 : decode c_Md_build 107 = .ok (.iaload, 1) := by decide +kernel
theorem d_Md_build_108 : decode c_Md_build 108 = .ok (.invokestatic 93, 3) := by decide +kernel
theorem d_Md_build_111 : decode c_Md_build 111 = .ok (.ifCond .ne 49, 3) := by decide +kernel
theorem d_Md_build_114 : decode c_Md_build 114 = .ok (.aload_n 0, 1) := by decide +kernel
theorem d_Md_build_115 : decode c_Md_build 115 = .ok (.getfield 68, 3) := by decide +kernel
theorem d_Md_build_118 : decode c_Md_build 118 = .ok (.iload_n 3, 1) := by decide +kernel
theorem d_Md_build_119 : decode c_Md_build 119 = .ok (.aload_n 0, 1) := by decide +kernel
theorem d_Md_build_120 : decode c_Md_build 120 = .ok (.getfield 7, 3) := by decide +kernel
theorem d_Md_build_123 : decode c_Md_build 123 = .ok (.iload 4, 2) := by decide +kernel
theorem d_Md_build_125 : decode c_Md_build 125 = .ok (.iaload, 1) := by decide +kernel
theorem d_Md_build_126 : decode c_Md_build 126 = .ok (.sipush 200, 3) := by decide +kernel
theorem d_Md_build_129 : decode c_Md_build 129 = .ok (.if_icmp .lt 22, 3) := by decide +kernel
theorem d_Md_build_132 : decode c_Md_build 132 = .ok (.aload_n 0, 1) := by decide +kernel
theorem d_Md_build_133 : decode c_Md_build 133 = .ok (.getfield 65, 3) := by decide +kernel
theorem d_Md_build_136 : decode c_Md_build 136 = .ok (.aload_n 0, 1) := by decide +kernel
theorem d_Md_build_137 : decode c_Md_build 137 = .ok (.getfield 7, 3) := by decide +kernel
theorem d_Md_build_140 : decode c_Md_build 140 = .ok (.iload 4, 2) := by decide +kernel
theorem d_Md_build_142 : decode c_Md_build 142 = .ok (.iaload, 1) := by decide +kernel
theorem d_Md_build_143 : decode c_Md_build 143 = .ok (.sipush 200, 3) := by decide +kernel
theorem d_Md_build_146 : decode c_Md_build 146 = .ok (.isub, 1) := by decide +kernel
theorem d_Md_build_147 : decode c_Md_build 147 = .ok (.iaload, 1) := by decide +kernel
theorem d_Md_build_148 : decode c_Md_build 148 = .ok (.goto 5, 3) := by decide +kernel
theorem d_Md_build_151 : decode c_Md_build 151 = .ok (.iload 4, 2) := by decide +kernel
theorem d_Md_build_153 : decode c_Md_build 153 = .ok (.iastore, 1) := by decide +kernel
theorem d_Md_build_154 : decode c_Md_build 154 = .ok (.iinc 3 1, 3) := by decide +kernel
theorem d_Md_build_157 : decode c_Md_build 157 = .ok (.goto 62, 3) := by decide +kernel
theorem d_Md_build_160 : decode c_Md_build 160 = .ok (.aload_n 0, 1) := by decide +kernel
theorem d_Md_build_161 : decode c_Md_build 161 = .ok (.getfield 62, 3) := by decide +kernel
theorem d_Md_build_164 : decode c_Md_build 164 = .ok (.iload_n 2, 1) := by decide +kernel
theorem d_Md_build_165 : decode c_Md_build 165 = .ok (.iconst (-1), 1) := by decide +kernel
theorem d_Md_build_166 : decode c_Md_build 166 = .ok (.iload 4, 2) := by decide +kernel
theorem d_Md_build_168 : decode c_Md_build 168 = .ok (.isub, 1) := by decide +kernel
theorem d_Md_build_169 : decode c_Md_build 169 = .ok (.iastore, 1) := by decide +kernel
theorem d_Md_build_170 : decode c_Md_build 170 = .ok (.iinc 2 1, 3) := by decide +kernel
theorem d_Md_build_173 : decode c_Md_build 173 = .ok (.aload_n 0, 1) := by decide +kernel
theorem d_Md_build_174 : decode c_Md_build 174 = .ok (.getfield 7, 3) := by decide +kernel
theorem d_Md_build_177 : decode c_Md_build 177 = .ok (.iload 4, 2) := by decide +kernel
theorem d_Md_build_179 : decode c_Md_build 179 = .ok (.iaload, 1) := by decide +kernel
theorem d_Md_build_180 : decode c_Md_build 180 = .ok (.invokestatic 93, 3) := by decide +kernel
theorem d_Md_build_183 : decode c_Md_build 183 = .ok (.iconst 2, 1) := by decide +kernel
theorem d_Md_build_184 : decode c_Md_build 184 = .ok (.if_icmp .ne 19, 3) := by decide +kernel
theorem d_Md_build_187 : decode c_Md_build 187 = .ok (.aload_n 0, 1) := by decide +kernel
theorem d_Md_build_188 : decode c_Md_build 188 = .ok (.getfield 62, 3) := by decide +kernel
theorem d_Md_build_191 : decode c_Md_build 191 = .ok (.iload_n 2, 1) := by decide +kernel
theorem d_Md_build_192 : decode c_Md_build 192 = .ok (.aload_n 0, 1) := by decide +kernel
theorem d_Md_build_193 : decode c_Md_build 193 = .ok (.getfield 16, 3) := by decide +kernel
theorem d_Md_build_196 : decode c_Md_build 196 = .ok (.iload 4, 2) := by decide +kernel
theorem d_Md_build_198 : decode c_Md_build 198 = .ok (.iaload, 1) := by decide +kernel
theorem d_Md_build_199 : decode c_Md_build 199 = .ok (.iastore, 1) := by decide +kernel
theorem d_Md_build_200 : decode c_Md_build 200 = .ok (.iinc 2 1, 3) := by decide +kernel
theorem d_Md_build_203 : decode c_Md_build 203 = .ok (.aload_n 0, 1) := by decide +kernel
theorem d_Md_build_204 : decode c_Md_build 204 = .ok (.getfield 62, 3) := by decide +kernel
theorem d_Md_build_207 : decode c_Md_build 207 = .ok (.iload_n 2, 1) := by decide +kernel
theorem d_Md_build_208 : decode c_Md_build 208 = .ok (.aload_n 0, 1) := by decide +kernel
theorem d_Md_build_209 : decode c_Md_build 209 = .ok (.getfield 13, 3) := by decide +kernel
theorem d_Md_build_212 : decode c_Md_build 212 = .ok (.iload 4, 2) := by decide +kernel
theorem d_Md_build_214 : decode c_Md_build 214 = .ok (.iaload, 1) := by decide +kernel
theorem d_Md_build_215 : decode c_Md_build 215 = .ok (.iastore, 1) := by decide +kernel
theorem d_Md_build_216 : decode c_Md_build 216 = .ok (.iinc 2 1, 3) := by decide +kernel
theorem d_Md_build_219 : decode c_Md_build 219 = .ok (.goto (-208), 3) := by decide +kernel
theorem d_Md_build_222 : decode c_Md_build 222 = .ok (.aload_n 0, 1) := by decide +kernel
theorem d_Md_build_223 : decode c_Md_build 223 = .ok (.getfield 97, 3) := by decide +kernel
theorem d_Md_build_226 : decode c_Md_build 226 = .ok (.ifCond .eq 7, 3) := by decide +kernel
theorem d_Md_build_229 : decode c_Md_build 229 = .ok (.iconst (-1), 1) := by decide +kernel
theorem d_Md_build_230 : decode c_Md_build 230 = .ok (.goto 9, 3) := by decide +kernel
theorem d_Md_build_233 : decode c_Md_build 233 = .ok (.aload_n 0, 1) := by decide +kernel
theorem d_Md_build_234 : decode c_Md_build 234 = .ok (.getfield 68, 3) := by decide +kernel
theorem d_Md_build_237 : decode c_Md_build 237 = .ok (.iconst 0, 1) := by decide +kernel
theorem d_Md_build_238 : decode c_Md_build 238 = .ok (.iaload, 1) := by decide +kernel
theorem d_Md_build_239 : decode c_Md_build 239 = .ok (.ireturn, 1) := by decide +kernel
theorem d_Md_replace_0 : decode c_Md_replace 0 = .ok (.iload_n 2, 1) := by decide +kernel
theorem d_Md_replace_1 : decode c_Md_replace 1 = .ok (.istore_n 3, 1) := by decide +kernel
theorem d_Md_replace_2 : decode c_Md_replace 2 = .ok (.iload_n 1, 1) := by decide +kernel
theorem d_Md_replace_3 : decode c_Md_replace 3 = .ok (.istore 4, 2) := by decide +kernel
theorem d_Md_replace_5 : decode c_Md_replace 5 = .ok (.aload_n 0, 1) := by decide +kernel
theorem d_Md_replace_6 : decode c_Md_replace 6 = .ok (.getfield 56, 3) := by decide +kernel
theorem d_Md_replace_9 : decode c_Md_replace 9 = .ok (.iload 4, 2) := by decide +kernel
theorem d_Md_replace_11 : decode c_Md_replace 11 = .ok (.iaload, 1) := by decide +kernel
theorem d_Md_replace_12 : decode c_Md_replace 12 = .ok (.iconst (-1), 1) := by decide +kernel
theorem d_Md_replace_13 : decode c_Md_replace 13 = .ok (.if_icmp .eq 95, 3) := by decide +kernel
theorem d_Md_replace_16 : decode c_Md_replace 16 = .ok (.aload_n 0, 1) := by decide +kernel
theorem d_Md_replace_17 : decode c_Md_replace 17 = .ok (.getfield 97, 3) := by decide +kernel
theorem d_Md_replace_20 : decode c_Md_replace 20 = .ok (.ifCond .ne 88, 3) := by decide +kernel
theorem d_Md_replace_23 : decode c_Md_replace 23 = .ok (.aload_n 0, 1) := by decide +kernel
theorem d_Md_replace_24 : decode c_Md_replace 24 = .ok (.getfield 56, 3) := by decide +kernel
theorem d_Md_replace_27 : decode c_Md_replace 27 = .ok (.iload 4, 2) := by decide +kernel
theorem d_Md_replace_29 : decode c_Md_replace 29 = .ok (.iaload, 1) := by decide +kernel
theorem d_Md_replace_30 : decode c_Md_replace 30 = .ok (.istore 5, 2) := by decide +kernel
theorem d_Md_replace_32 : decode c_Md_replace 32 = .ok (.aload_n 0, 1) := by decide +kernel
theorem d_Md_replace_33 : decode c_Md_replace 33 = .ok (.getfield 53, 3) := by decide +kernel
theorem d_Md_replace_36 : decode c_Md_replace 36 = .ok (.iload 5, 2) := by decide +kernel
theorem d_Md_replace_38 : decode c_Md_replace 38 = .ok (.iaload, 1) := by decide +kernel
theorem d_Md_replace_39 : decode c_Md_replace 39 = .ok (.istore 6, 2) := by decide +kernel
theorem d_Md_replace_41 : decode c_Md_replace 41 = .ok (.iload 4, 2) := by decide +kernel
theorem d_Md_replace_43 : decode c_Md_replace 43 = .ok (.iload 5, 2) := by decide +kernel
theorem d_Md_replace_45 : decode c_Md_replace 45 = .ok (.iconst 1, 1) := by decide +kernel
theorem d_Md_replace_46 : decode c_Md_replace 46 = .ok (.iadd, 1) := by decide +kernel
theorem d_Md_replace_47 : decode c_Md_replace 47 = .ok (.if_icmp .ne 7, 3) := by decide +kernel
theorem d_Md_replace_50 : decode c_Md_replace 50 = .ok (.iconst 1, 1) := by decide +kernel
theorem d_Md_replace_51 : decode c_Md_replace 51 = .ok (.goto 4, 3) := by decide +kernel
theorem d_Md_replace_54 : decode c_Md_replace 54 = .ok (.iconst 0, 1) := by decide +kernel
theorem d_Md_replace_55 : decode c_Md_replace 55 = .ok (.istore 7, 2) := by decide +kernel
theorem d_Md_replace_57 : decode c_Md_replace 57 = .ok (.aload_n 0, 1) := by decide +kernel
theorem d_Md_replace_58 : decode c_Md_replace 58 = .ok (.aload_n 0, 1) := by decide +kernel
theorem d_Md_replace_59 : decode c_Md_replace 59 = .ok (.getfield 7, 3) := by decide +kernel
theorem d_Md_replace_62 : decode c_Md_replace 62 = .ok (.iload 6, 2) := by decide +kernel
theorem d_Md_replace_64 : decode c_Md_replace 64 = .ok (.iaload, 1) := by decide +kernel
theorem d_Md_replace_65 : decode c_Md_replace 65 = .ok (.iload 7, 2) := by decide +kernel
theorem d_Md_replace_67 : decode c_Md_replace 67 = .ok (.ifCond .eq 7, 3) := by decide +kernel
theorem d_Md_replace_70 : decode c_Md_replace 70 = .ok (.iload_n 3, 1) := by decide +kernel
theorem d_Md_replace_71 : decode c_Md_replace 71 = .ok (.goto 10, 3) := by decide +kernel
theorem d_Md_replace_74 : decode c_Md_replace 74 = .ok (.aload_n 0, 1) := by decide +kernel
theorem d_Md_replace_75 : decode c_Md_replace 75 = .ok (.getfield 13, 3) := by decide +kernel
theorem d_Md_replace_78 : decode c_Md_replace 78 = .ok (.iload 6, 2) := by decide +kernel
theorem d_Md_replace_80 : decode c_Md_replace 80 = .ok (.iaload, 1) := by decide +kernel
theorem d_Md_replace_81 : decode c_Md_replace 81 = .ok (.iload 7, 2) := by decide +kernel
theorem d_Md_replace_83 : decode c_Md_replace 83 = .ok (.ifCond .eq 13, 3) := by decide +kernel
theorem d_Md_replace_86 : decode c_Md_replace 86 = .ok (.aload_n 0, 1) := by decide +kernel
theorem d_Md_replace_87 : decode c_Md_replace 87 = .ok (.getfield 16, 3) := by decide +kernel
theorem d_Md_replace_90 : decode c_Md_replace 90 = .ok (.iload 6, 2) := by decide +kernel
theorem d_Md_replace_92 : decode c_Md_replace 92 = .ok (.iaload, 1) := by decide +kernel
theorem d_Md_replace_93 : decode c_Md_replace 93 = .ok (.goto 4, 3) := by decide +kernel
theorem d_Md_replace_96 : decode c_Md_replace 96 = .ok (.iload_n 3, 1) := by decide +kernel
theorem d_Md_replace_97 : decode c_Md_replace 97 = .ok (.invokevirtual 101, 3) := by decide +kernel
theorem d_Md_replace_100 : decode c_Md_replace 100 = .ok (.istore_n 3, 1) := by decide +kernel
theorem d_Md_replace_101 : decode c_Md_replace 101 = .ok (.iload 5, 2) := by decide +kernel
theorem d_Md_replace_103 : decode c_Md_replace 103 = .ok (.istore 4, 2) := by decide +kernel
theorem d_Md_replace_105 : decode c_Md_replace 105 = .ok (.goto (-100), 3) := by decide +kernel
theorem d_Md_replace_108 : decode c_Md_replace 108 = .ok (.iload_n 3, 1) := by decide +kernel
theorem d_Md_replace_109 : decode c_Md_replace 109 = .ok (.ireturn, 1) := by decide +kernel
theorem d_Md_keep_0 : decode c_Md_keep 0 = .ok (.aload_n 0, 1) := by decide +kernel
theorem d_Md_keep_1 : decode c_Md_keep 1 = .ok (.dup, 1) := by decide +kernel
theorem d_Md_keep_2 : decode c_Md_keep 2 = .ok (.getfield 147, 3) := by decide +kernel
theorem d_Md_keep_5 : decode c_Md_keep 5 = .ok (.iconst 1, 1) := by decide +kernel
theorem d_Md_keep_6 : decode c_Md_keep 6 = .ok (.iadd, 1) := by decide +kernel
theorem d_Md_keep_7 : decode c_Md_keep 7 = .ok (.putfield 147, 3) := by decide +kernel
theorem d_Md_keep_10 : decode c_Md_keep 10 = .ok (.aload_n 0, 1) := by decide +kernel
theorem d_Md_keep_11 : decode c_Md_keep 11 = .ok (.getfield 150, 3) := by decide +kernel
theorem d_Md_keep_14 : decode c_Md_keep 14 = .ok (.sipush 200, 3) := by decide +kernel
theorem d_Md_keep_17 : decode c_Md_keep 17 = .ok (.if_icmp .ne 4, 3) := by decide +kernel
theorem d_Md_keep_20 : decode c_Md_keep 20 = .ok (.return_, 1) := by decide +kernel
theorem d_Md_keep_21 : decode c_Md_keep 21 = .ok (.aload_n 0, 1) := by decide +kernel
theorem d_Md_keep_22 : decode c_Md_keep 22 = .ok (.getfield 50, 3) := by decide +kernel
theorem d_Md_keep_25 : decode c_Md_keep 25 = .ok (.iconst 4, 1) := by decide +kernel
theorem d_Md_keep_26 : decode c_Md_keep 26 = .ok (.aload_n 0, 1) := by decide +kernel
theorem d_Md_keep_27 : decode c_Md_keep 27 = .ok (.getfield 150, 3) := by decide +kernel
theorem d_Md_keep_30 : decode c_Md_keep 30 = .ok (.imul, 1) := by decide +kernel
theorem d_Md_keep_31 : decode c_Md_keep 31 = .ok (.iload_n 1, 1) := by decide +kernel
theorem d_Md_keep_32 : decode c_Md_keep 32 = .ok (.iastore, 1) := by decide +kernel
theorem d_Md_keep_33 : decode c_Md_keep 33 = .ok (.aload_n 0, 1) := by decide +kernel
theorem d_Md_keep_34 : decode c_Md_keep 34 = .ok (.getfield 50, 3) := by decide +kernel
theorem d_Md_keep_37 : decode c_Md_keep 37 = .ok (.iconst 4, 1) := by decide +kernel
theorem d_Md_keep_38 : decode c_Md_keep 38 = .ok (.aload_n 0, 1) := by decide +kernel
theorem d_Md_keep_39 : decode c_Md_keep 39 = .ok (.getfield 150, 3) := by decide +kernel
theorem d_Md_keep_42 : decode c_Md_keep 42 = .ok (.imul, 1) := by decide +kernel
theorem d_Md_keep_43 : decode c_Md_keep 43 = .ok (.iconst 1, 1) := by decide +kernel
theorem d_Md_keep_44 : decode c_Md_keep 44 = .ok (.iadd, 1) := by decide +kernel
theorem d_Md_keep_45 : decode c_Md_keep 45 = .ok (.iload_n 2, 1) := by decide +kernel
theorem d_Md_keep_46 : decode c_Md_keep 46 = .ok (.iastore, 1) := by decide +kernel
theorem d_Md_keep_47 : decode c_Md_keep 47 = .ok (.aload_n 0, 1) := by decide +kernel
theorem d_Md_keep_48 : decode c_Md_keep 48 = .ok (.getfield 50, 3) := by decide +kernel
theorem d_Md_keep_51 : decode c_Md_keep 51 = .ok (.iconst 4, 1) := by decide +kernel
theorem d_Md_keep_52 : decode c_Md_keep 52 = .ok (.aload_n 0, 1) := by decide +kernel
theorem d_Md_keep_53 : decode c_Md_keep 53 = .ok (.getfield 150, 3) := by decide +kernel
theorem d_Md_keep_56 : decode c_Md_keep 56 = .ok (.imul, 1) := by decide +kernel
theorem d_Md_keep_57 : decode c_Md_keep 57 = .ok (.iconst 2, 1) := by decide +kernel
theorem d_Md_keep_58 : decode c_Md_keep 58 = .ok (.iadd, 1) := by decide +kernel
theorem d_Md_keep_59 : decode c_Md_keep 59 = .ok (.iload_n 3, 1) := by decide +kernel
theorem d_Md_keep_60 : decode c_Md_keep 60 = .ok (.iastore, 1) := by decide +kernel
theorem d_Md_keep_61 : decode c_Md_keep 61 = .ok (.aload_n 0, 1) := by decide +kernel
theorem d_Md_keep_62 : decode c_Md_keep 62 = .ok (.getfield 50, 3) := by decide +kernel
theorem d_Md_keep_65 : decode c_Md_keep 65 = .ok (.iconst 4, 1) := by decide +kernel
theorem d_Md_keep_66 : decode c_Md_keep 66 = .ok (.aload_n 0, 1) := by decide +kernel
theorem d_Md_keep_67 : decode c_Md_keep 67 = .ok (.getfield 150, 3) := by decide +kernel
theorem d_Md_keep_70 : decode c_Md_keep 70 = .ok (.imul, 1) := by decide +kernel
theorem d_Md_keep_71 : decode c_Md_keep 71 = .ok (.iconst 3, 1) := by decide +kernel
theorem d_Md_keep_72 : decode c_Md_keep 72 = .ok (.iadd, 1) := by decide +kernel
theorem d_Md_keep_73 : decode c_Md_keep 73 = .ok (.iload 4, 2) := by decide +kernel
theorem d_Md_keep_75 : decode c_Md_keep 75 = .ok (.iastore, 1) := by decide +kernel
theorem d_Md_keep_76 : decode c_Md_keep 76 = .ok (.aload_n 0, 1) := by decide +kernel
theorem d_Md_keep_77 : decode c_Md_keep 77 = .ok (.dup, 1) := by decide +kernel
theorem d_Md_keep_78 : decode c_Md_keep 78 = .ok (.getfield 150, 3) := by decide +kernel
theorem d_Md_keep_81 : decode c_Md_keep 81 = .ok (.iconst 1, 1) := by decide +kernel
theorem d_Md_keep_82 : decode c_Md_keep 82 = .ok (.iadd, 1) := by decide +kernel
theorem d_Md_keep_83 : decode c_Md_keep 83 = .ok (.putfield 150, 3) := by decide +kernel
theorem d_Md_keep_86 : decode c_Md_keep 86 = .ok (.return_, 1) := by decide +kernel
theorem d_Md_take_0 : decode c_Md_take 0 = .ok (.iconst 0, 1) := by decide +kernel
theorem d_Md_take_1 : decode c_Md_take 1 = .ok (.istore_n 1, 1) := by decide +kernel
theorem d_Md_take_2 : decode c_Md_take 2 = .ok (.iload_n 1, 1) := by decide +kernel
theorem d_Md_take_3 : decode c_Md_take 3 = .ok (.iconst 4, 1) := by decide +kernel
theorem d_Md_take_4 : decode c_Md_take 4 = .ok (.aload_n 0, 1) := by decide +kernel
theorem d_Md_take_5 : decode c_Md_take 5 = .ok (.getfield 150, 3) := by decide +kernel
theorem d_Md_take_8 : decode c_Md_take 8 = .ok (.imul, 1) := by decide +kernel
theorem d_Md_take_9 : decode c_Md_take 9 = .ok (.if_icmp .ge 21, 3) := by decide +kernel
theorem d_Md_take_12 : decode c_Md_take 12 = .ok (.aload_n 0, 1) := by decide +kernel
theorem d_Md_take_13 : decode c_Md_take 13 = .ok (.getfield 47, 3) := by decide +kernel
theorem d_Md_take_16 : decode c_Md_take 16 = .ok (.iload_n 1, 1) := by decide +kernel
theorem d_Md_take_17 : decode c_Md_take 17 = .ok (.aload_n 0, 1) := by decide +kernel
theorem d_Md_take_18 : decode c_Md_take 18 = .ok (.getfield 50, 3) := by decide +kernel
theorem d_Md_take_21 : decode c_Md_take 21 = .ok (.iload_n 1, 1) := by decide +kernel
theorem d_Md_take_22 : decode c_Md_take 22 = .ok (.iaload, 1) := by decide +kernel
theorem d_Md_take_23 : decode c_Md_take 23 = .ok (.iastore, 1) := by decide +kernel
theorem d_Md_take_24 : decode c_Md_take 24 = .ok (.iinc 1 1, 3) := by decide +kernel
theorem d_Md_take_27 : decode c_Md_take 27 = .ok (.goto (-25), 3) := by decide +kernel
theorem d_Md_take_30 : decode c_Md_take 30 = .ok (.aload_n 0, 1) := by decide +kernel
theorem d_Md_take_31 : decode c_Md_take 31 = .ok (.aload_n 0, 1) := by decide +kernel
theorem d_Md_take_32 : decode c_Md_take 32 = .ok (.getfield 150, 3) := by decide +kernel
theorem d_Md_take_35 : decode c_Md_take 35 = .ok (.putfield 170, 3) := by decide +kernel
theorem d_Md_take_38 : decode c_Md_take 38 = .ok (.aload_n 0, 1) := by decide +kernel
theorem d_Md_take_39 : decode c_Md_take 39 = .ok (.aload_n 0, 1) := by decide +kernel
theorem d_Md_take_40 : decode c_Md_take 40 = .ok (.getfield 147, 3) := by decide +kernel
theorem d_Md_take_43 : decode c_Md_take 43 = .ok (.putfield 173, 3) := by decide +kernel
theorem d_Md_take_46 : decode c_Md_take 46 = .ok (.return_, 1) := by decide +kernel
theorem d_Md_normal_0 : decode c_Md_normal 0 = .ok (.aload_n 0, 1) := by decide +kernel
theorem d_Md_normal_1 : decode c_Md_normal 1 = .ok (.aload_n 0, 1) := by decide +kernel
theorem d_Md_normal_2 : decode c_Md_normal 2 = .ok (.iload_n 1, 1) := by decide +kernel
theorem d_Md_normal_3 : decode c_Md_normal 3 = .ok (.invokevirtual 109, 3) := by decide +kernel
theorem d_Md_normal_6 : decode c_Md_normal 6 = .ok (.ifCond .ne 7, 3) := by decide +kernel
theorem d_Md_normal_9 : decode c_Md_normal 9 = .ok (.iconst 1, 1) := by decide +kernel
theorem d_Md_normal_10 : decode c_Md_normal 10 = .ok (.goto 17, 3) := by decide +kernel
theorem d_Md_normal_13 : decode c_Md_normal 13 = .ok (.aload_n 0, 1) := by decide +kernel
theorem d_Md_normal_14 : decode c_Md_normal 14 = .ok (.getfield 28, 3) := by decide +kernel
theorem d_Md_normal_17 : decode c_Md_normal 17 = .ok (.iload_n 1, 1) := by decide +kernel
theorem d_Md_normal_18 : decode c_Md_normal 18 = .ok (.iaload, 1) := by decide +kernel
theorem d_Md_normal_19 : decode c_Md_normal 19 = .ok (.ifCond .eq 7, 3) := by decide +kernel
theorem d_Md_normal_22 : decode c_Md_normal 22 = .ok (.iconst 2, 1) := by decide +kernel
theorem d_Md_normal_23 : decode c_Md_normal 23 = .ok (.goto 4, 3) := by decide +kernel
theorem d_Md_normal_26 : decode c_Md_normal 26 = .ok (.iconst 0, 1) := by decide +kernel
theorem d_Md_normal_27 : decode c_Md_normal 27 = .ok (.putfield 86, 3) := by decide +kernel
theorem d_Md_normal_30 : decode c_Md_normal 30 = .ok (.aload_n 0, 1) := by decide +kernel
theorem d_Md_normal_31 : decode c_Md_normal 31 = .ok (.getfield 86, 3) := by decide +kernel
theorem d_Md_normal_34 : decode c_Md_normal 34 = .ok (.ifCond .eq 5, 3) := by decide +kernel
theorem d_Md_normal_37 : decode c_Md_normal 37 = .ok (.iconst 0, 1) := by decide +kernel
theorem d_Md_normal_38 : decode c_Md_normal 38 = .ok (.ireturn, 1) := by decide +kernel
theorem d_Md_normal_39 : decode c_Md_normal 39 = .ok (.aload_n 0, 1) := by decide +kernel
theorem d_Md_normal_40 : decode c_Md_normal 40 = .ok (.iconst 1, 1) := by decide +kernel
theorem d_Md_normal_41 : decode c_Md_normal 41 = .ok (.invokevirtual 176, 3) := by decide +kernel
theorem d_Md_normal_44 : decode c_Md_normal 44 = .ok (.aload_n 0, 1) := by decide +kernel
theorem d_Md_normal_45 : decode c_Md_normal 45 = .ok (.iload_n 1, 1) := by decide +kernel
theorem d_Md_normal_46 : decode c_Md_normal 46 = .ok (.iconst (-1), 1) := by decide +kernel
theorem d_Md_normal_47 : decode c_Md_normal 47 = .ok (.invokevirtual 180, 3) := by decide +kernel
theorem d_Md_normal_50 : decode c_Md_normal 50 = .ok (.istore_n 2, 1) := by decide +kernel
theorem d_Md_normal_51 : decode c_Md_normal 51 = .ok (.aload_n 0, 1) := by decide +kernel
theorem d_Md_normal_52 : decode c_Md_normal 52 = .ok (.aload_n 0, 1) := by decide +kernel
theorem d_Md_normal_53 : decode c_Md_normal 53 = .ok (.getfield 97, 3) := by decide +kernel
theorem d_Md_normal_56 : decode c_Md_normal 56 = .ok (.ifCond .eq 7, 3) := by decide +kernel
theorem d_Md_normal_59 : decode c_Md_normal 59 = .ok (.iconst 3, 1) := by decide +kernel
theorem d_Md_normal_60 : decode c_Md_normal 60 = .ok (.goto 4, 3) := by decide +kernel
theorem d_Md_normal_63 : decode c_Md_normal 63 = .ok (.iconst 0, 1) := by decide +kernel
theorem d_Md_normal_64 : decode c_Md_normal 64 = .ok (.putfield 86, 3) := by decide +kernel
theorem d_Md_normal_67 : decode c_Md_normal 67 = .ok (.aload_n 0, 1) := by decide +kernel
theorem d_Md_normal_68 : decode c_Md_normal 68 = .ok (.getfield 97, 3) := by decide +kernel
theorem d_Md_normal_71 : decode c_Md_normal 71 = .ok (.ifCond .eq 5, 3) := by decide +kernel
theorem d_Md_normal_74 : decode c_Md_normal 74 = .ok (.iconst 0, 1) := by decide +kernel
theorem d_Md_normal_75 : decode c_Md_normal 75 = .ok (.ireturn, 1) := by decide +kernel
theorem d_Md_normal_76 : decode c_Md_normal 76 = .ok (.aload_n 0, 1) := by decide +kernel
theorem d_Md_normal_77 : decode c_Md_normal 77 = .ok (.invokevirtual 183, 3) := by decide +kernel
theorem d_Md_normal_80 : decode c_Md_normal 80 = .ok (.iload_n 2, 1) := by decide +kernel
theorem d_Md_normal_81 : decode c_Md_normal 81 = .ok (.ireturn, 1) := by decide +kernel
theorem d_Md_joins_0 : decode c_Md_joins 0 = .ok (.aload_n 0, 1) := by decide +kernel
theorem d_Md_joins_1 : decode c_Md_joins 1 = .ok (.aload_n 0, 1) := by decide +kernel
theorem d_Md_joins_2 : decode c_Md_joins 2 = .ok (.iload_n 1, 1) := by decide +kernel
theorem d_Md_joins_3 : decode c_Md_joins 3 = .ok (.invokevirtual 109, 3) := by decide +kernel
theorem d_Md_joins_6 : decode c_Md_joins 6 = .ok (.ifCond .eq 11, 3) := by decide +kernel
theorem d_Md_joins_9 : decode c_Md_joins 9 = .ok (.aload_n 0, 1) := by decide +kernel
theorem d_Md_joins_10 : decode c_Md_joins 10 = .ok (.iload_n 2, 1) := by decide +kernel
theorem d_Md_joins_11 : decode c_Md_joins 11 = .ok (.invokevirtual 109, 3) := by decide +kernel
theorem d_Md_joins_14 : decode c_Md_joins 14 = .ok (.ifCond .ne 7, 3) := by decide +kernel
theorem d_Md_joins_17 : decode c_Md_joins 17 = .ok (.iconst 1, 1) := by decide +kernel
theorem d_Md_joins_18 : decode c_Md_joins 18 = .ok (.goto 26, 3) := by decide +kernel
theorem d_Md_joins_21 : decode c_Md_joins 21 = .ok (.aload_n 0, 1) := by decide +kernel
theorem d_Md_joins_22 : decode c_Md_joins 22 = .ok (.getfield 28, 3) := by decide +kernel
theorem d_Md_joins_25 : decode c_Md_joins 25 = .ok (.iload_n 1, 1) := by decide +kernel
theorem d_Md_joins_26 : decode c_Md_joins 26 = .ok (.iaload, 1) := by decide +kernel
theorem d_Md_joins_27 : decode c_Md_joins 27 = .ok (.ifCond .ne 12, 3) := by decide +kernel
theorem d_Md_joins_30 : decode c_Md_joins 30 = .ok (.aload_n 0, 1) := by decide +kernel
theorem d_Md_joins_31 : decode c_Md_joins 31 = .ok (.getfield 28, 3) := by decide +kernel
theorem d_Md_joins_34 : decode c_Md_joins 34 = .ok (.iload_n 2, 1) := by decide +kernel
theorem d_Md_joins_35 : decode c_Md_joins 35 = .ok (.iaload, 1) := by decide +kernel
theorem d_Md_joins_36 : decode c_Md_joins 36 = .ok (.ifCond .eq 7, 3) := by decide +kernel
theorem d_Md_joins_39 : decode c_Md_joins 39 = .ok (.iconst 2, 1) := by decide +kernel
theorem d_Md_joins_40 : decode c_Md_joins 40 = .ok (.goto 4, 3) := by decide +kernel
theorem d_Md_joins_43 : decode c_Md_joins 43 = .ok (.iconst 0, 1) := by decide +kernel
theorem d_Md_joins_44 : decode c_Md_joins 44 = .ok (.putfield 86, 3) := by decide +kernel
theorem d_Md_joins_47 : decode c_Md_joins 47 = .ok (.aload_n 0, 1) := by decide +kernel
theorem d_Md_joins_48 : decode c_Md_joins 48 = .ok (.getfield 86, 3) := by decide +kernel
theorem d_Md_joins_51 : decode c_Md_joins 51 = .ok (.ifCond .eq 5, 3) := by decide +kernel
theorem d_Md_joins_54 : decode c_Md_joins 54 = .ok (.iconst 0, 1) := by decide +kernel
theorem d_Md_joins_55 : decode c_Md_joins 55 = .ok (.ireturn, 1) := by decide +kernel
theorem d_Md_joins_56 : decode c_Md_joins 56 = .ok (.aload_n 0, 1) := by decide +kernel
theorem d_Md_joins_57 : decode c_Md_joins 57 = .ok (.getfield 90, 3) := by decide +kernel
theorem d_Md_joins_60 : decode c_Md_joins 60 = .ok (.istore_n 3, 1) := by decide +kernel
theorem d_Md_joins_61 : decode c_Md_joins 61 = .ok (.aload_n 0, 1) := by decide +kernel
theorem d_Md_joins_62 : decode c_Md_joins 62 = .ok (.iconst 1, 1) := by decide +kernel
theorem d_Md_joins_63 : decode c_Md_joins 63 = .ok (.invokevirtual 176, 3) := by decide +kernel
theorem d_Md_joins_66 : decode c_Md_joins 66 = .ok (.aload_n 0, 1) := by decide +kernel
theorem d_Md_joins_67 : decode c_Md_joins 67 = .ok (.iload_n 1, 1) := by decide +kernel
theorem d_Md_joins_68 : decode c_Md_joins 68 = .ok (.iconst (-1), 1) := by decide +kernel
theorem d_Md_joins_69 : decode c_Md_joins 69 = .ok (.invokevirtual 180, 3) := by decide +kernel
theorem d_Md_joins_72 : decode c_Md_joins 72 = .ok (.istore 4, 2) := by decide +kernel
theorem d_Md_joins_74 : decode c_Md_joins 74 = .ok (.aload_n 0, 1) := by decide +kernel
theorem d_Md_joins_75 : decode c_Md_joins 75 = .ok (.getfield 97, 3) := by decide +kernel
theorem d_Md_joins_78 : decode c_Md_joins 78 = .ok (.ifCond .eq 7, 3) := by decide +kernel
theorem d_Md_joins_81 : decode c_Md_joins 81 = .ok (.iconst (-1), 1) := by decide +kernel
theorem d_Md_joins_82 : decode c_Md_joins 82 = .ok (.goto 9, 3) := by decide +kernel
theorem d_Md_joins_85 : decode c_Md_joins 85 = .ok (.aload_n 0, 1) := by decide +kernel
theorem d_Md_joins_86 : decode c_Md_joins 86 = .ok (.iload_n 2, 1) := by decide +kernel
theorem d_Md_joins_87 : decode c_Md_joins 87 = .ok (.iconst (-1), 1) := by decide +kernel
theorem d_Md_joins_88 : decode c_Md_joins 88 = .ok (.invokevirtual 180, 3) := by decide +kernel
theorem d_Md_joins_91 : decode c_Md_joins 91 = .ok (.istore 5, 2) := by decide +kernel
theorem d_Md_joins_93 : decode c_Md_joins 93 = .ok (.aload_n 0, 1) := by decide +kernel
theorem d_Md_joins_94 : decode c_Md_joins 94 = .ok (.aload_n 0, 1) := by decide +kernel
theorem d_Md_joins_95 : decode c_Md_joins 95 = .ok (.getfield 97, 3) := by decide +kernel
theorem d_Md_joins_98 : decode c_Md_joins 98 = .ok (.ifCond .eq 7, 3) := by decide +kernel
theorem d_Md_joins_101 : decode c_Md_joins 101 = .ok (.iconst 3, 1) := by decide +kernel
theorem d_Md_joins_102 : decode c_Md_joins 102 = .ok (.goto 4, 3) := by decide +kernel
theorem d_Md_joins_105 : decode c_Md_joins 105 = .ok (.iconst 0, 1) := by decide +kernel
theorem d_Md_joins_106 : decode c_Md_joins 106 = .ok (.putfield 86, 3) := by decide +kernel
theorem d_Md_joins_109 : decode c_Md_joins 109 = .ok (.aload_n 0, 1) := by decide +kernel
theorem d_Md_joins_110 : decode c_Md_joins 110 = .ok (.getfield 97, 3) := by decide +kernel
theorem d_Md_joins_113 : decode c_Md_joins 113 = .ok (.ifCond .eq 8, 3) := by decide +kernel
theorem d_Md_joins_116 : decode c_Md_joins 116 = .ok (.aload_n 0, 1) := by decide +kernel
theorem d_Md_joins_117 : decode c_Md_joins 117 = .ok (.iload_n 3, 1) := by decide +kernel
theorem d_Md_joins_118 : decode c_Md_joins 118 = .ok (.putfield 90, 3) := by decide +kernel
theorem d_Md_joins_121 : decode c_Md_joins 121 = .ok (.aload_n 0, 1) := by decide +kernel
theorem d_Md_joins_122 : decode c_Md_joins 122 = .ok (.getfield 97, 3) := by decide +kernel
theorem d_Md_joins_125 : decode c_Md_joins 125 = .ok (.ifCond .ne 14, 3) := by decide +kernel
theorem d_Md_joins_128 : decode c_Md_joins 128 = .ok (.iload 4, 2) := by decide +kernel
theorem d_Md_joins_130 : decode c_Md_joins 130 = .ok (.iload 5, 2) := by decide +kernel
theorem d_Md_joins_132 : decode c_Md_joins 132 = .ok (.if_icmp .ne 7, 3) := by decide +kernel
theorem d_Md_joins_135 : decode c_Md_joins 135 = .ok (.iconst 1, 1) := by decide +kernel
theorem d_Md_joins_136 : decode c_Md_joins 136 = .ok (.goto 4, 3) := by decide +kernel
theorem d_Md_joins_139 : decode c_Md_joins 139 = .ok (.iconst 0, 1) := by decide +kernel
theorem d_Md_joins_140 : decode c_Md_joins 140 = .ok (.ireturn, 1) := by decide +kernel
theorem d_Md_spent_0 : decode c_Md_spent 0 = .ok (.aload_n 0, 1) := by decide +kernel
theorem d_Md_spent_1 : decode c_Md_spent 1 = .ok (.iconst 0, 1) := by decide +kernel
theorem d_Md_spent_2 : decode c_Md_spent 2 = .ok (.putfield 86, 3) := by decide +kernel
theorem d_Md_spent_5 : decode c_Md_spent 5 = .ok (.aload_n 0, 1) := by decide +kernel
theorem d_Md_spent_6 : decode c_Md_spent 6 = .ok (.getfield 186, 3) := by decide +kernel
theorem d_Md_spent_9 : decode c_Md_spent 9 = .ok (.ireturn, 1) := by decide +kernel
theorem d_Md_row_0 : decode c_Md_row 0 = .ok (.aload_n 0, 1) := by decide +kernel
theorem d_Md_row_1 : decode c_Md_row 1 = .ok (.iload_n 1, 1) := by decide +kernel
theorem d_Md_row_2 : decode c_Md_row 2 = .ok (.ifCond .lt 11, 3) := by decide +kernel
theorem d_Md_row_5 : decode c_Md_row 5 = .ok (.iload_n 1, 1) := by decide +kernel
theorem d_Md_row_6 : decode c_Md_row 6 = .ok (.aload_n 0, 1) := by decide +kernel
theorem d_Md_row_7 : decode c_Md_row 7 = .ok (.getfield 170, 3) := by decide +kernel
theorem d_Md_row_10 : decode c_Md_row 10 = .ok (.if_icmp .lt 7, 3) := by decide +kernel
theorem d_Md_row_13 : decode c_Md_row 13 = .ok (.iconst 1, 1) := by decide +kernel
theorem d_Md_row_14 : decode c_Md_row 14 = .ok (.goto 17, 3) := by decide +kernel
theorem d_Md_row_17 : decode c_Md_row 17 = .ok (.iload_n 2, 1) := by decide +kernel
theorem d_Md_row_18 : decode c_Md_row 18 = .ok (.ifCond .lt 8, 3) := by decide +kernel
theorem d_Md_row_21 : decode c_Md_row 21 = .ok (.iload_n 2, 1) := by decide +kernel
theorem d_Md_row_22 : decode c_Md_row 22 = .ok (.iconst 3, 1) := by decide +kernel
theorem d_Md_row_23 : decode c_Md_row 23 = .ok (.if_icmp .le 7, 3) := by decide +kernel
theorem d_Md_row_26 : decode c_Md_row 26 = .ok (.iconst 2, 1) := by decide +kernel
theorem d_Md_row_27 : decode c_Md_row 27 = .ok (.goto 4, 3) := by decide +kernel
theorem d_Md_row_30 : decode c_Md_row 30 = .ok (.iconst 0, 1) := by decide +kernel
theorem d_Md_row_31 : decode c_Md_row 31 = .ok (.putfield 86, 3) := by decide +kernel
theorem d_Md_row_34 : decode c_Md_row 34 = .ok (.aload_n 0, 1) := by decide +kernel
theorem d_Md_row_35 : decode c_Md_row 35 = .ok (.getfield 86, 3) := by decide +kernel
theorem d_Md_row_38 : decode c_Md_row 38 = .ok (.ifCond .eq 7, 3) := by decide +kernel
theorem d_Md_row_41 : decode c_Md_row 41 = .ok (.iconst 0, 1) := by decide +kernel
theorem d_Md_row_42 : decode c_Md_row 42 = .ok (.goto 13, 3) := by decide +kernel
theorem d_Md_row_45 : decode c_Md_row 45 = .ok (.aload_n 0, 1) := by decide +kernel
theorem d_Md_row_46 : decode c_Md_row 46 = .ok (.getfield 47, 3) := by decide +kernel
theorem d_Md_row_49 : decode c_Md_row 49 = .ok (.iconst 4, 1) := by decide +kernel
theorem d_Md_row_50 : decode c_Md_row 50 = .ok (.iload_n 1, 1) := by decide +kernel
theorem d_Md_row_51 : decode c_Md_row 51 = .ok (.imul, 1) := by decide +kernel
theorem d_Md_row_52 : decode c_Md_row 52 = .ok (.iload_n 2, 1) := by decide +kernel
theorem d_Md_row_53 : decode c_Md_row 53 = .ok (.iadd, 1) := by decide +kernel
theorem d_Md_row_54 : decode c_Md_row 54 = .ok (.iaload, 1) := by decide +kernel
theorem d_Md_row_55 : decode c_Md_row 55 = .ok (.ireturn, 1) := by decide +kernel
theorem d_Md_steps_0 : decode c_Md_steps 0 = .ok (.aload_n 0, 1) := by decide +kernel
theorem d_Md_steps_1 : decode c_Md_steps 1 = .ok (.iconst 0, 1) := by decide +kernel
theorem d_Md_steps_2 : decode c_Md_steps 2 = .ok (.putfield 86, 3) := by decide +kernel
theorem d_Md_steps_5 : decode c_Md_steps 5 = .ok (.aload_n 0, 1) := by decide +kernel
theorem d_Md_steps_6 : decode c_Md_steps 6 = .ok (.getfield 173, 3) := by decide +kernel
theorem d_Md_steps_9 : decode c_Md_steps 9 = .ok (.ireturn, 1) := by decide +kernel
theorem d_Md_domain_0 : decode c_Md_domain 0 = .ok (.aload_n 0, 1) := by decide +kernel
theorem d_Md_domain_1 : decode c_Md_domain 1 = .ok (.iconst 0, 1) := by decide +kernel
theorem d_Md_domain_2 : decode c_Md_domain 2 = .ok (.putfield 86, 3) := by decide +kernel
theorem d_Md_domain_5 : decode c_Md_domain 5 = .ok (.iconst 0, 1) := by decide +kernel
theorem d_Md_domain_6 : decode c_Md_domain 6 = .ok (.istore_n 1, 1) := by decide +kernel
theorem d_Md_domain_7 : decode c_Md_domain 7 = .ok (.iconst 0, 1) := by decide +kernel
theorem d_Md_domain_8 : decode c_Md_domain 8 = .ok (.istore_n 2, 1) := by decide +kernel
theorem d_Md_domain_9 : decode c_Md_domain 9 = .ok (.iload_n 2, 1) := by decide +kernel
theorem d_Md_domain_10 : decode c_Md_domain 10 = .ok (.aload_n 0, 1) := by decide +kernel
theorem d_Md_domain_11 : decode c_Md_domain 11 = .ok (.getfield 170, 3) := by decide +kernel
theorem d_Md_domain_14 : decode c_Md_domain 14 = .ok (.if_icmp .ge 44, 3) := by decide +kernel
theorem d_Md_domain_17 : decode c_Md_domain 17 = .ok (.aload_n 0, 1) := by decide +kernel
theorem d_Md_domain_18 : decode c_Md_domain 18 = .ok (.getfield 37, 3) := by decide +kernel
theorem d_Md_domain_21 : decode c_Md_domain 21 = .ok (.aload_n 0, 1) := by decide +kernel
theorem d_Md_domain_22 : decode c_Md_domain 22 = .ok (.getfield 47, 3) := by decide +kernel
theorem d_Md_domain_25 : decode c_Md_domain 25 = .ok (.iconst 4, 1) := by decide +kernel
theorem d_Md_domain_26 : decode c_Md_domain 26 = .ok (.iload_n 2, 1) := by decide +kernel
theorem d_Md_domain_27 : decode c_Md_domain 27 = .ok (.imul, 1) := by decide +kernel
theorem d_Md_domain_28 : decode c_Md_domain 28 = .ok (.iaload, 1) := by decide +kernel
theorem d_Md_domain_29 : decode c_Md_domain 29 = .ok (.iaload, 1) := by decide +kernel
theorem d_Md_domain_30 : decode c_Md_domain 30 = .ok (.iconst (-1), 1) := by decide +kernel
theorem d_Md_domain_31 : decode c_Md_domain 31 = .ok (.if_icmp .eq 21, 3) := by decide +kernel
theorem d_Md_domain_34 : decode c_Md_domain 34 = .ok (.iload_n 1, 1) := by decide +kernel
theorem d_Md_domain_35 : decode c_Md_domain 35 = .ok (.iconst 1, 1) := by decide +kernel
theorem d_Md_domain_36 : decode c_Md_domain 36 = .ok (.aload_n 0, 1) := by decide +kernel
theorem d_Md_domain_37 : decode c_Md_domain 37 = .ok (.getfield 37, 3) := by decide +kernel
theorem d_Md_domain_40 : decode c_Md_domain 40 = .ok (.aload_n 0, 1) := by decide +kernel
theorem d_Md_domain_41 : decode c_Md_domain 41 = .ok (.getfield 47, 3) := by decide +kernel
theorem d_Md_domain_44 : decode c_Md_domain 44 = .ok (.iconst 4, 1) := by decide +kernel
theorem d_Md_domain_45 : decode c_Md_domain 45 = .ok (.iload_n 2, 1) := by decide +kernel
theorem d_Md_domain_46 : decode c_Md_domain 46 = .ok (.imul, 1) := by decide +kernel
theorem d_Md_domain_47 : decode c_Md_domain 47 = .ok (.iaload, 1) := by decide +kernel
theorem d_Md_domain_48 : decode c_Md_domain 48 = .ok (.iaload, 1) := by decide +kernel
theorem d_Md_domain_49 : decode c_Md_domain 49 = .ok (.ishl, 1) := by decide +kernel
theorem d_Md_domain_50 : decode c_Md_domain 50 = .ok (.ior, 1) := by decide +kernel
theorem d_Md_domain_51 : decode c_Md_domain 51 = .ok (.istore_n 1, 1) := by decide +kernel
theorem d_Md_domain_52 : decode c_Md_domain 52 = .ok (.iinc 2 1, 3) := by decide +kernel
theorem d_Md_domain_55 : decode c_Md_domain 55 = .ok (.goto (-46), 3) := by decide +kernel
theorem d_Md_domain_58 : decode c_Md_domain 58 = .ok (.iload_n 1, 1) := by decide +kernel
theorem d_Md_domain_59 : decode c_Md_domain 59 = .ok (.ireturn, 1) := by decide +kernel
theorem d_Md_above_0 : decode c_Md_above 0 = .ok (.aload_n 0, 1) := by decide +kernel
theorem d_Md_above_1 : decode c_Md_above 1 = .ok (.aload_n 0, 1) := by decide +kernel
theorem d_Md_above_2 : decode c_Md_above 2 = .ok (.iload_n 1, 1) := by decide +kernel
theorem d_Md_above_3 : decode c_Md_above 3 = .ok (.invokevirtual 109, 3) := by decide +kernel
theorem d_Md_above_6 : decode c_Md_above 6 = .ok (.ifCond .eq 15, 3) := by decide +kernel
theorem d_Md_above_9 : decode c_Md_above 9 = .ok (.aload_n 0, 1) := by decide +kernel
theorem d_Md_above_10 : decode c_Md_above 10 = .ok (.iload_n 2, 1) := by decide +kernel
theorem d_Md_above_11 : decode c_Md_above 11 = .ok (.invokevirtual 109, 3) := by decide +kernel
theorem d_Md_above_14 : decode c_Md_above 14 = .ok (.ifCond .eq 7, 3) := by decide +kernel
theorem d_Md_above_17 : decode c_Md_above 17 = .ok (.iconst 0, 1) := by decide +kernel
theorem d_Md_above_18 : decode c_Md_above 18 = .ok (.goto 4, 3) := by decide +kernel
theorem d_Md_above_21 : decode c_Md_above 21 = .ok (.iconst 1, 1) := by decide +kernel
theorem d_Md_above_22 : decode c_Md_above 22 = .ok (.putfield 86, 3) := by decide +kernel
theorem d_Md_above_25 : decode c_Md_above 25 = .ok (.aload_n 0, 1) := by decide +kernel
theorem d_Md_above_26 : decode c_Md_above 26 = .ok (.getfield 86, 3) := by decide +kernel
theorem d_Md_above_29 : decode c_Md_above 29 = .ok (.ifCond .ne 16, 3) := by decide +kernel
theorem d_Md_above_32 : decode c_Md_above 32 = .ok (.aload_n 0, 1) := by decide +kernel
theorem d_Md_above_33 : decode c_Md_above 33 = .ok (.iload_n 1, 1) := by decide +kernel
theorem d_Md_above_34 : decode c_Md_above 34 = .ok (.iload_n 2, 1) := by decide +kernel
theorem d_Md_above_35 : decode c_Md_above 35 = .ok (.invokevirtual 138, 3) := by decide +kernel
theorem d_Md_above_38 : decode c_Md_above 38 = .ok (.ifCond .eq 7, 3) := by decide +kernel
theorem d_Md_above_41 : decode c_Md_above 41 = .ok (.iconst 1, 1) := by decide +kernel
theorem d_Md_above_42 : decode c_Md_above 42 = .ok (.goto 4, 3) := by decide +kernel
theorem d_Md_above_45 : decode c_Md_above 45 = .ok (.iconst 0, 1) := by decide +kernel
theorem d_Md_above_46 : decode c_Md_above 46 = .ok (.ireturn, 1) := by decide +kernel
theorem d_Md_measure_0 : decode c_Md_measure 0 = .ok (.aload_n 0, 1) := by decide +kernel
theorem d_Md_measure_1 : decode c_Md_measure 1 = .ok (.aload_n 0, 1) := by decide +kernel
theorem d_Md_measure_2 : decode c_Md_measure 2 = .ok (.iload_n 1, 1) := by decide +kernel
theorem d_Md_measure_3 : decode c_Md_measure 3 = .ok (.invokevirtual 109, 3) := by decide +kernel
theorem d_Md_measure_6 : decode c_Md_measure 6 = .ok (.ifCond .ne 7, 3) := by decide +kernel
theorem d_Md_measure_9 : decode c_Md_measure 9 = .ok (.iconst 1, 1) := by decide +kernel
theorem d_Md_measure_10 : decode c_Md_measure 10 = .ok (.goto 17, 3) := by decide +kernel
theorem d_Md_measure_13 : decode c_Md_measure 13 = .ok (.iload_n 2, 1) := by decide +kernel
theorem d_Md_measure_14 : decode c_Md_measure 14 = .ok (.ifCond .lt 8, 3) := by decide +kernel
theorem d_Md_measure_17 : decode c_Md_measure 17 = .ok (.iload_n 2, 1) := by decide +kernel
theorem d_Md_measure_18 : decode c_Md_measure 18 = .ok (.iconst 3, 1) := by decide +kernel
theorem d_Md_measure_19 : decode c_Md_measure 19 = .ok (.if_icmp .le 7, 3) := by decide +kernel
theorem d_Md_measure_22 : decode c_Md_measure 22 = .ok (.iconst 2, 1) := by decide +kernel
theorem d_Md_measure_23 : decode c_Md_measure 23 = .ok (.goto 4, 3) := by decide +kernel
theorem d_Md_measure_26 : decode c_Md_measure 26 = .ok (.iconst 0, 1) := by decide +kernel
theorem d_Md_measure_27 : decode c_Md_measure 27 = .ok (.putfield 86, 3) := by decide +kernel
theorem d_Md_measure_30 : decode c_Md_measure 30 = .ok (.aload_n 0, 1) := by decide +kernel
theorem d_Md_measure_31 : decode c_Md_measure 31 = .ok (.getfield 86, 3) := by decide +kernel
theorem d_Md_measure_34 : decode c_Md_measure 34 = .ok (.ifCond .eq 5, 3) := by decide +kernel
theorem d_Md_measure_37 : decode c_Md_measure 37 = .ok (.iconst 0, 1) := by decide +kernel
theorem d_Md_measure_38 : decode c_Md_measure 38 = .ok (.ireturn, 1) := by decide +kernel
theorem d_Md_measure_39 : decode c_Md_measure 39 = .ok (.iload_n 2, 1) := by decide +kernel
theorem d_Md_measure_40 : decode c_Md_measure 40 = .ok (.ifCond .ne 12, 3) := by decide +kernel
theorem d_Md_measure_43 : decode c_Md_measure 43 = .ok (.aload_n 0, 1) := by decide +kernel
theorem d_Md_measure_44 : decode c_Md_measure 44 = .ok (.getfield 19, 3) := by decide +kernel
theorem d_Md_measure_47 : decode c_Md_measure 47 = .ok (.iload_n 1, 1) := by decide +kernel
theorem d_Md_measure_48 : decode c_Md_measure 48 = .ok (.iaload, 1) := by decide +kernel
theorem d_Md_measure_49 : decode c_Md_measure 49 = .ok (.goto 37, 3) := by decide +kernel
theorem d_Md_measure_52 : decode c_Md_measure 52 = .ok (.iload_n 2, 1) := by decide +kernel
theorem d_Md_measure_53 : decode c_Md_measure 53 = .ok (.iconst 1, 1) := by decide +kernel
theorem d_Md_measure_54 : decode c_Md_measure 54 = .ok (.if_icmp .ne 12, 3) := by decide +kernel
theorem d_Md_measure_57 : decode c_Md_measure 57 = .ok (.aload_n 0, 1) := by decide +kernel
theorem d_Md_measure_58 : decode c_Md_measure 58 = .ok (.getfield 22, 3) := by decide +kernel
theorem d_Md_measure_61 : decode c_Md_measure 61 = .ok (.iload_n 1, 1) := by decide +kernel
theorem d_Md_measure_62 : decode c_Md_measure 62 = .ok (.iaload, 1) := by decide +kernel
theorem d_Md_measure_63 : decode c_Md_measure 63 = .ok (.goto 23, 3) := by decide +kernel
theorem d_Md_measure_66 : decode c_Md_measure 66 = .ok (.iload_n 2, 1) := by decide +kernel
theorem d_Md_measure_67 : decode c_Md_measure 67 = .ok (.iconst 2, 1) := by decide +kernel
theorem d_Md_measure_68 : decode c_Md_measure 68 = .ok (.if_icmp .ne 12, 3) := by decide +kernel
theorem d_Md_measure_71 : decode c_Md_measure 71 = .ok (.aload_n 0, 1) := by decide +kernel
theorem d_Md_measure_72 : decode c_Md_measure 72 = .ok (.getfield 25, 3) := by decide +kernel
theorem d_Md_measure_75 : decode c_Md_measure 75 = .ok (.iload_n 1, 1) := by decide +kernel
theorem d_Md_measure_76 : decode c_Md_measure 76 = .ok (.iaload, 1) := by decide +kernel
theorem d_Md_measure_77 : decode c_Md_measure 77 = .ok (.goto 9, 3) := by decide +kernel
theorem d_Md_measure_80 : decode c_Md_measure 80 = .ok (.aload_n 0, 1) := by decide +kernel
theorem d_Md_measure_81 : decode c_Md_measure 81 = .ok (.getfield 28, 3) := by decide +kernel
theorem d_Md_measure_84 : decode c_Md_measure 84 = .ok (.iload_n 1, 1) := by decide +kernel
theorem d_Md_measure_85 : decode c_Md_measure 85 = .ok (.iaload, 1) := by decide +kernel
theorem d_Md_measure_86 : decode c_Md_measure 86 = .ok (.ireturn, 1) := by decide +kernel
theorem d_Md_at_0 : decode c_Md_at 0 = .ok (.aload_n 0, 1) := by decide +kernel
theorem d_Md_at_1 : decode c_Md_at 1 = .ok (.aload_n 0, 1) := by decide +kernel
theorem d_Md_at_2 : decode c_Md_at 2 = .ok (.iload_n 1, 1) := by decide +kernel
theorem d_Md_at_3 : decode c_Md_at 3 = .ok (.invokevirtual 109, 3) := by decide +kernel
theorem d_Md_at_6 : decode c_Md_at 6 = .ok (.ifCond .eq 7, 3) := by decide +kernel
theorem d_Md_at_9 : decode c_Md_at 9 = .ok (.iconst 0, 1) := by decide +kernel
theorem d_Md_at_10 : decode c_Md_at 10 = .ok (.goto 4, 3) := by decide +kernel
theorem d_Md_at_13 : decode c_Md_at 13 = .ok (.iconst 1, 1) := by decide +kernel
theorem d_Md_at_14 : decode c_Md_at 14 = .ok (.putfield 86, 3) := by decide +kernel
theorem d_Md_at_17 : decode c_Md_at 17 = .ok (.aload_n 0, 1) := by decide +kernel
theorem d_Md_at_18 : decode c_Md_at 18 = .ok (.getfield 86, 3) := by decide +kernel
theorem d_Md_at_21 : decode c_Md_at 21 = .ok (.ifCond .eq 5, 3) := by decide +kernel
theorem d_Md_at_24 : decode c_Md_at 24 = .ok (.iconst 0, 1) := by decide +kernel
theorem d_Md_at_25 : decode c_Md_at 25 = .ok (.ireturn, 1) := by decide +kernel
theorem d_Md_at_26 : decode c_Md_at 26 = .ok (.aload_n 0, 1) := by decide +kernel
theorem d_Md_at_27 : decode c_Md_at 27 = .ok (.iload_n 1, 1) := by decide +kernel
theorem d_Md_at_28 : decode c_Md_at 28 = .ok (.aload_n 0, 1) := by decide +kernel
theorem d_Md_at_29 : decode c_Md_at 29 = .ok (.getfield 53, 3) := by decide +kernel
theorem d_Md_at_32 : decode c_Md_at 32 = .ok (.iconst 0, 1) := by decide +kernel
theorem d_Md_at_33 : decode c_Md_at 33 = .ok (.invokevirtual 117, 3) := by decide +kernel
theorem d_Md_at_36 : decode c_Md_at 36 = .ok (.istore_n 3, 1) := by decide +kernel
theorem d_Md_at_37 : decode c_Md_at 37 = .ok (.iload_n 2, 1) := by decide +kernel
theorem d_Md_at_38 : decode c_Md_at 38 = .ok (.ifCond .lt 8, 3) := by decide +kernel
theorem d_Md_at_41 : decode c_Md_at 41 = .ok (.iload_n 2, 1) := by decide +kernel
theorem d_Md_at_42 : decode c_Md_at 42 = .ok (.iload_n 3, 1) := by decide +kernel
theorem d_Md_at_43 : decode c_Md_at 43 = .ok (.if_icmp .lt 7, 3) := by decide +kernel
theorem d_Md_at_46 : decode c_Md_at 46 = .ok (.iconst (-1), 1) := by decide +kernel
theorem d_Md_at_47 : decode c_Md_at 47 = .ok (.goto 9, 3) := by decide +kernel
theorem d_Md_at_50 : decode c_Md_at 50 = .ok (.aload_n 0, 1) := by decide +kernel
theorem d_Md_at_51 : decode c_Md_at 51 = .ok (.getfield 53, 3) := by decide +kernel
theorem d_Md_at_54 : decode c_Md_at 54 = .ok (.iload_n 2, 1) := by decide +kernel
theorem d_Md_at_55 : decode c_Md_at 55 = .ok (.iaload, 1) := by decide +kernel
theorem d_Md_at_56 : decode c_Md_at 56 = .ok (.ireturn, 1) := by decide +kernel
theorem d_Md_head_0 : decode c_Md_head 0 = .ok (.aload_n 0, 1) := by decide +kernel
theorem d_Md_head_1 : decode c_Md_head 1 = .ok (.aload_n 0, 1) := by decide +kernel
theorem d_Md_head_2 : decode c_Md_head 2 = .ok (.iload_n 1, 1) := by decide +kernel
theorem d_Md_head_3 : decode c_Md_head 3 = .ok (.invokevirtual 109, 3) := by decide +kernel
theorem d_Md_head_6 : decode c_Md_head 6 = .ok (.ifCond .eq 7, 3) := by decide +kernel
theorem d_Md_head_9 : decode c_Md_head 9 = .ok (.iconst 0, 1) := by decide +kernel
theorem d_Md_head_10 : decode c_Md_head 10 = .ok (.goto 4, 3) := by decide +kernel
theorem d_Md_head_13 : decode c_Md_head 13 = .ok (.iconst 1, 1) := by decide +kernel
theorem d_Md_head_14 : decode c_Md_head 14 = .ok (.putfield 86, 3) := by decide +kernel
theorem d_Md_head_17 : decode c_Md_head 17 = .ok (.aload_n 0, 1) := by decide +kernel
theorem d_Md_head_18 : decode c_Md_head 18 = .ok (.getfield 86, 3) := by decide +kernel
theorem d_Md_head_21 : decode c_Md_head 21 = .ok (.ifCond .eq 5, 3) := by decide +kernel
theorem d_Md_head_24 : decode c_Md_head 24 = .ok (.iconst 0, 1) := by decide +kernel
theorem d_Md_head_25 : decode c_Md_head 25 = .ok (.ireturn, 1) := by decide +kernel
theorem d_Md_head_26 : decode c_Md_head 26 = .ok (.aload_n 0, 1) := by decide +kernel
theorem d_Md_head_27 : decode c_Md_head 27 = .ok (.getfield 7, 3) := by decide +kernel
theorem d_Md_head_30 : decode c_Md_head 30 = .ok (.iload_n 1, 1) := by decide +kernel
theorem d_Md_head_31 : decode c_Md_head 31 = .ok (.iaload, 1) := by decide +kernel
theorem d_Md_head_32 : decode c_Md_head 32 = .ok (.sipush 200, 3) := by decide +kernel
theorem d_Md_head_35 : decode c_Md_head 35 = .ok (.if_icmp .lt 19, 3) := by decide +kernel
theorem d_Md_head_38 : decode c_Md_head 38 = .ok (.bipush 100, 2) := by decide +kernel
theorem d_Md_head_40 : decode c_Md_head 40 = .ok (.aload_n 0, 1) := by decide +kernel
theorem d_Md_head_41 : decode c_Md_head 41 = .ok (.getfield 7, 3) := by decide +kernel
theorem d_Md_head_44 : decode c_Md_head 44 = .ok (.iload_n 1, 1) := by decide +kernel
theorem d_Md_head_45 : decode c_Md_head 45 = .ok (.iaload, 1) := by decide +kernel
theorem d_Md_head_46 : decode c_Md_head 46 = .ok (.iadd, 1) := by decide +kernel
theorem d_Md_head_47 : decode c_Md_head 47 = .ok (.sipush 200, 3) := by decide +kernel
theorem d_Md_head_50 : decode c_Md_head 50 = .ok (.isub, 1) := by decide +kernel
theorem d_Md_head_51 : decode c_Md_head 51 = .ok (.goto 34, 3) := by decide +kernel
theorem d_Md_head_54 : decode c_Md_head 54 = .ok (.aload_n 0, 1) := by decide +kernel
theorem d_Md_head_55 : decode c_Md_head 55 = .ok (.getfield 7, 3) := by decide +kernel
theorem d_Md_head_58 : decode c_Md_head 58 = .ok (.iload_n 1, 1) := by decide +kernel
theorem d_Md_head_59 : decode c_Md_head 59 = .ok (.iaload, 1) := by decide +kernel
theorem d_Md_head_60 : decode c_Md_head 60 = .ok (.bipush 100, 2) := by decide +kernel
theorem d_Md_head_62 : decode c_Md_head 62 = .ok (.if_icmp .lt 17, 3) := by decide +kernel
theorem d_Md_head_65 : decode c_Md_head 65 = .ok (.iconst (-1), 1) := by decide +kernel
theorem d_Md_head_66 : decode c_Md_head 66 = .ok (.aload_n 0, 1) := by decide +kernel
theorem d_Md_head_67 : decode c_Md_head 67 = .ok (.getfield 7, 3) := by decide +kernel
theorem d_Md_head_70 : decode c_Md_head 70 = .ok (.iload_n 1, 1) := by decide +kernel
theorem d_Md_head_71 : decode c_Md_head 71 = .ok (.iaload, 1) := by decide +kernel
theorem d_Md_head_72 : decode c_Md_head 72 = .ok (.bipush 100, 2) := by decide +kernel
theorem d_Md_head_74 : decode c_Md_head 74 = .ok (.isub, 1) := by decide +kernel
theorem d_Md_head_75 : decode c_Md_head 75 = .ok (.isub, 1) := by decide +kernel
theorem d_Md_head_76 : decode c_Md_head 76 = .ok (.goto 9, 3) := by decide +kernel
theorem d_Md_head_79 : decode c_Md_head 79 = .ok (.aload_n 0, 1) := by decide +kernel
theorem d_Md_head_80 : decode c_Md_head 80 = .ok (.getfield 7, 3) := by decide +kernel
theorem d_Md_head_83 : decode c_Md_head 83 = .ok (.iload_n 1, 1) := by decide +kernel
theorem d_Md_head_84 : decode c_Md_head 84 = .ok (.iaload, 1) := by decide +kernel
theorem d_Md_head_85 : decode c_Md_head 85 = .ok (.ireturn, 1) := by decide +kernel
theorem d_Md_count_0 : decode c_Md_count 0 = .ok (.aload_n 0, 1) := by decide +kernel
theorem d_Md_count_1 : decode c_Md_count 1 = .ok (.iconst 0, 1) := by decide +kernel
theorem d_Md_count_2 : decode c_Md_count 2 = .ok (.putfield 86, 3) := by decide +kernel
theorem d_Md_count_5 : decode c_Md_count 5 = .ok (.iload_n 1, 1) := by decide +kernel
theorem d_Md_count_6 : decode c_Md_count 6 = .ok (.ifCond .ne 10, 3) := by decide +kernel
theorem d_Md_count_9 : decode c_Md_count 9 = .ok (.aload_n 0, 1) := by decide +kernel
theorem d_Md_count_10 : decode c_Md_count 10 = .ok (.getfield 90, 3) := by decide +kernel
theorem d_Md_count_13 : decode c_Md_count 13 = .ok (.goto 28, 3) := by decide +kernel
theorem d_Md_count_16 : decode c_Md_count 16 = .ok (.iload_n 1, 1) := by decide +kernel
theorem d_Md_count_17 : decode c_Md_count 17 = .ok (.iconst 1, 1) := by decide +kernel
theorem d_Md_count_18 : decode c_Md_count 18 = .ok (.if_icmp .ne 10, 3) := by decide +kernel
theorem d_Md_count_21 : decode c_Md_count 21 = .ok (.aload_n 0, 1) := by decide +kernel
theorem d_Md_count_22 : decode c_Md_count 22 = .ok (.getfield 129, 3) := by decide +kernel
theorem d_Md_count_25 : decode c_Md_count 25 = .ok (.goto 16, 3) := by decide +kernel
theorem d_Md_count_28 : decode c_Md_count 28 = .ok (.iload_n 1, 1) := by decide +kernel
theorem d_Md_count_29 : decode c_Md_count 29 = .ok (.iconst 2, 1) := by decide +kernel
theorem d_Md_count_30 : decode c_Md_count 30 = .ok (.if_icmp .ne 10, 3) := by decide +kernel
theorem d_Md_count_33 : decode c_Md_count 33 = .ok (.aload_n 0, 1) := by decide +kernel
theorem d_Md_count_34 : decode c_Md_count 34 = .ok (.getfield 170, 3) := by decide +kernel
theorem d_Md_count_37 : decode c_Md_count 37 = .ok (.goto 4, 3) := by decide +kernel
theorem d_Md_count_40 : decode c_Md_count 40 = .ok (.iconst (-1), 1) := by decide +kernel
theorem d_Md_count_41 : decode c_Md_count 41 = .ok (.ireturn, 1) := by decide +kernel
