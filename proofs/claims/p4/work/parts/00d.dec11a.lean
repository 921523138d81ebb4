theorem dX11_init_0 : decode cX11_init 0 = .ok (.aload_n 0, 1) := by decide +kernel
theorem dX11_init_1 : decode cX11_init 1 = .ok (.invokespecial 1, 3) := by decide +kernel
theorem dX11_init_4 : decode cX11_init 4 = .ok (.aload_n 0, 1) := by decide +kernel
theorem dX11_init_5 : decode cX11_init 5 = .ok (.new 7, 3) := by decide +kernel
theorem dX11_init_8 : decode cX11_init 8 = .ok (.dup, 1) := by decide +kernel
theorem dX11_init_9 : decode cX11_init 9 = .ok (.invokespecial 9, 3) := by decide +kernel
theorem dX11_init_12 : decode cX11_init 12 = .ok (.putfield 10, 3) := by decide +kernel
theorem dX11_init_15 : decode cX11_init 15 = .ok (.aload_n 0, 1) := by decide +kernel
theorem dX11_init_16 : decode cX11_init 16 = .ok (.new 16, 3) := by decide +kernel
theorem dX11_init_19 : decode cX11_init 19 = .ok (.dup, 1) := by decide +kernel
theorem dX11_init_20 : decode cX11_init 20 = .ok (.invokespecial 18, 3) := by decide +kernel
theorem dX11_init_23 : decode cX11_init 23 = .ok (.putfield 19, 3) := by decide +kernel
theorem dX11_init_26 : decode cX11_init 26 = .ok (.aload_n 0, 1) := by decide +kernel
theorem dX11_init_27 : decode cX11_init 27 = .ok (.new 16, 3) := by decide +kernel
theorem dX11_init_30 : decode cX11_init 30 = .ok (.dup, 1) := by decide +kernel
theorem dX11_init_31 : decode cX11_init 31 = .ok (.invokespecial 18, 3) := by decide +kernel
theorem dX11_init_34 : decode cX11_init 34 = .ok (.putfield 23, 3) := by decide +kernel
theorem dX11_init_37 : decode cX11_init 37 = .ok (.aload_n 0, 1) := by decide +kernel
theorem dX11_init_38 : decode cX11_init 38 = .ok (.new 26, 3) := by decide +kernel
theorem dX11_init_41 : decode cX11_init 41 = .ok (.dup, 1) := by decide +kernel
theorem dX11_init_42 : decode cX11_init 42 = .ok (.invokespecial 28, 3) := by decide +kernel
theorem dX11_init_45 : decode cX11_init 45 = .ok (.putfield 29, 3) := by decide +kernel
theorem dX11_init_48 : decode cX11_init 48 = .ok (.aload_n 0, 1) := by decide +kernel
theorem dX11_init_49 : decode cX11_init 49 = .ok (.new 33, 3) := by decide +kernel
theorem dX11_init_52 : decode cX11_init 52 = .ok (.dup, 1) := by decide +kernel
theorem dX11_init_53 : decode cX11_init 53 = .ok (.invokespecial 35, 3) := by decide +kernel
theorem dX11_init_56 : decode cX11_init 56 = .ok (.putfield 36, 3) := by decide +kernel
theorem dX11_init_59 : decode cX11_init 59 = .ok (.aload_n 0, 1) := by decide +kernel
theorem dX11_init_60 : decode cX11_init 60 = .ok (.iconst 2, 1) := by decide +kernel
theorem dX11_init_61 : decode cX11_init 61 = .ok (.anewarray 16, 3) := by decide +kernel
theorem dX11_init_64 : decode cX11_init 64 = .ok (.putfield 40, 3) := by decide +kernel
theorem dX11_init_67 : decode cX11_init 67 = .ok (.aload_n 0, 1) := by decide +kernel
theorem dX11_init_68 : decode cX11_init 68 = .ok (.iconst 2, 1) := by decide +kernel
theorem dX11_init_69 : decode cX11_init 69 = .ok (.newarray .boolean, 2) := by decide +kernel
theorem dX11_init_71 : decode cX11_init 71 = .ok (.putfield 44, 3) := by decide +kernel
theorem dX11_init_74 : decode cX11_init 74 = .ok (.aload_n 0, 1) := by decide +kernel
theorem dX11_init_75 : decode cX11_init 75 = .ok (.iconst 5, 1) := by decide +kernel
theorem dX11_init_76 : decode cX11_init 76 = .ok (.anewarray 48, 3) := by decide +kernel
theorem dX11_init_79 : decode cX11_init 79 = .ok (.putfield 50, 3) := by decide +kernel
theorem dX11_init_82 : decode cX11_init 82 = .ok (.aload_n 0, 1) := by decide +kernel
theorem dX11_init_83 : decode cX11_init 83 = .ok (.new 54, 3) := by decide +kernel
theorem dX11_init_86 : decode cX11_init 86 = .ok (.dup, 1) := by decide +kernel
theorem dX11_init_87 : decode cX11_init 87 = .ok (.invokespecial 56, 3) := by decide +kernel
theorem dX11_init_90 : decode cX11_init 90 = .ok (.putfield 57, 3) := by decide +kernel
theorem dX11_init_93 : decode cX11_init 93 = .ok (.aload_n 0, 1) := by decide +kernel
theorem dX11_init_94 : decode cX11_init 94 = .ok (.iconst 3, 1) := by decide +kernel
theorem dX11_init_95 : decode cX11_init 95 = .ok (.anewarray 61, 3) := by decide +kernel
theorem dX11_init_98 : decode cX11_init 98 = .ok (.putfield 63, 3) := by decide +kernel
theorem dX11_init_101 : decode cX11_init 101 = .ok (.aload_n 0, 1) := by decide +kernel
theorem dX11_init_102 : decode cX11_init 102 = .ok (.new 67, 3) := by decide +kernel
theorem dX11_init_105 : decode cX11_init 105 = .ok (.dup, 1) := by decide +kernel
theorem dX11_init_106 : decode cX11_init 106 = .ok (.invokespecial 69, 3) := by decide +kernel
theorem dX11_init_109 : decode cX11_init 109 = .ok (.putfield 70, 3) := by decide +kernel
theorem dX11_init_112 : decode cX11_init 112 = .ok (.aload_n 0, 1) := by decide +kernel
theorem dX11_init_113 : decode cX11_init 113 = .ok (.new 74, 3) := by decide +kernel
theorem dX11_init_116 : decode cX11_init 116 = .ok (.dup, 1) := by decide +kernel
theorem dX11_init_117 : decode cX11_init 117 = .ok (.invokespecial 76, 3) := by decide +kernel
theorem dX11_init_120 : decode cX11_init 120 = .ok (.putfield 77, 3) := by decide +kernel
theorem dX11_init_123 : decode cX11_init 123 = .ok (.aload_n 0, 1) := by decide +kernel
theorem dX11_init_124 : decode cX11_init 124 = .ok (.bipush 6, 2) := by decide +kernel
theorem dX11_init_126 : decode cX11_init 126 = .ok (.newarray .int, 2) := by decide +kernel
theorem dX11_init_128 : decode cX11_init 128 = .ok (.putfield 81, 3) := by decide +kernel
theorem dX11_init_131 : decode cX11_init 131 = .ok (.aload_n 0, 1) := by decide +kernel
theorem dX11_init_132 : decode cX11_init 132 = .ok (.new 85, 3) := by decide +kernel
theorem dX11_init_135 : decode cX11_init 135 = .ok (.dup, 1) := by decide +kernel
theorem dX11_init_136 : decode cX11_init 136 = .ok (.invokespecial 87, 3) := by decide +kernel
theorem dX11_init_139 : decode cX11_init 139 = .ok (.putfield 88, 3) := by decide +kernel
theorem dX11_init_142 : decode cX11_init 142 = .ok (.aload_n 0, 1) := by decide +kernel
theorem dX11_init_143 : decode cX11_init 143 = .ok (.new 85, 3) := by decide +kernel
theorem dX11_init_146 : decode cX11_init 146 = .ok (.dup, 1) := by decide +kernel
theorem dX11_init_147 : decode cX11_init 147 = .ok (.invokespecial 87, 3) := by decide +kernel
theorem dX11_init_150 : decode cX11_init 150 = .ok (.putfield 92, 3) := by decide +kernel
theorem dX11_init_153 : decode cX11_init 153 = .ok (.iconst 0, 1) := by decide +kernel
theorem dX11_init_154 : decode cX11_init 154 = .ok (.istore_n 1, 1) := by decide +kernel
theorem dX11_init_155 : decode cX11_init 155 = .ok (.iload_n 1, 1) := by decide +kernel
theorem dX11_init_156 : decode cX11_init 156 = .ok (.iconst 2, 1) := by decide +kernel
theorem dX11_init_157 : decode cX11_init 157 = .ok (.if_icmp .ge 22, 3) := by decide +kernel
theorem dX11_init_160 : decode cX11_init 160 = .ok (.aload_n 0, 1) := by decide +kernel
theorem dX11_init_161 : decode cX11_init 161 = .ok (.getfield 40, 3) := by decide +kernel
theorem dX11_init_164 : decode cX11_init 164 = .ok (.iload_n 1, 1) := by decide +kernel
theorem dX11_init_165 : decode cX11_init 165 = .ok (.new 16, 3) := by decide +kernel
theorem dX11_init_168 : decode cX11_init 168 = .ok (.dup, 1) := by decide +kernel
theorem dX11_init_169 : decode cX11_init 169 = .ok (.invokespecial 18, 3) := by decide +kernel
theorem dX11_init_172 : decode cX11_init 172 = .ok (.aastore, 1) := by decide +kernel
theorem dX11_init_173 : decode cX11_init 173 = .ok (.iinc 1 1, 3) := by decide +kernel
theorem dX11_init_176 : decode cX11_init 176 = .ok (.goto (-21), 3) := by decide +kernel
theorem dX11_init_179 : decode cX11_init 179 = .ok (.iconst 0, 1) := by decide +kernel
theorem dX11_init_180 : decode cX11_init 180 = .ok (.istore_n 1, 1) := by decide +kernel
theorem dX11_init_181 : decode cX11_init 181 = .ok (.iload_n 1, 1) := by decide +kernel
theorem dX11_init_182 : decode cX11_init 182 = .ok (.iconst 5, 1) := by decide +kernel
theorem dX11_init_183 : decode cX11_init 183 = .ok (.if_icmp .ge 27, 3) := by decide +kernel
theorem dX11_init_186 : decode cX11_init 186 = .ok (.aload_n 0, 1) := by decide +kernel
theorem dX11_init_187 : decode cX11_init 187 = .ok (.getfield 50, 3) := by decide +kernel
theorem dX11_init_190 : decode cX11_init 190 = .ok (.iload_n 1, 1) := by decide +kernel
theorem dX11_init_191 : decode cX11_init 191 = .ok (.new 48, 3) := by decide +kernel
theorem dX11_init_194 : decode cX11_init 194 = .ok (.dup, 1) := by decide +kernel
theorem dX11_init_195 : decode cX11_init 195 = .ok (.getstatic 95, 3) := by decide +kernel
theorem dX11_init_198 : decode cX11_init 198 = .ok (.iload_n 1, 1) := by decide +kernel
theorem dX11_init_199 : decode cX11_init 199 = .ok (.iaload, 1) := by decide +kernel
theorem dX11_init_200 : decode cX11_init 200 = .ok (.invokespecial 98, 3) := by decide +kernel
theorem dX11_init_203 : decode cX11_init 203 = .ok (.aastore, 1) := by decide +kernel
theorem dX11_init_204 : decode cX11_init 204 = .ok (.iinc 1 1, 3) := by decide +kernel
theorem dX11_init_207 : decode cX11_init 207 = .ok (.goto (-26), 3) := by decide +kernel
theorem dX11_init_210 : decode cX11_init 210 = .ok (.iconst 0, 1) := by decide +kernel
theorem dX11_init_211 : decode cX11_init 211 = .ok (.istore_n 1, 1) := by decide +kernel
theorem dX11_init_212 : decode cX11_init 212 = .ok (.iload_n 1, 1) := by decide +kernel
theorem dX11_init_213 : decode cX11_init 213 = .ok (.iconst 3, 1) := by decide +kernel
theorem dX11_init_214 : decode cX11_init 214 = .ok (.if_icmp .ge 22, 3) := by decide +kernel
theorem dX11_init_217 : decode cX11_init 217 = .ok (.aload_n 0, 1) := by decide +kernel
theorem dX11_init_218 : decode cX11_init 218 = .ok (.getfield 63, 3) := by decide +kernel
theorem dX11_init_221 : decode cX11_init 221 = .ok (.iload_n 1, 1) := by decide +kernel
theorem dX11_init_222 : decode cX11_init 222 = .ok (.new 61, 3) := by decide +kernel
theorem dX11_init_225 : decode cX11_init 225 = .ok (.dup, 1) := by decide +kernel
theorem dX11_init_226 : decode cX11_init 226 = .ok (.invokespecial 101, 3) := by decide +kernel
theorem dX11_init_229 : decode cX11_init 229 = .ok (.aastore, 1) := by decide +kernel
theorem dX11_init_230 : decode cX11_init 230 = .ok (.iinc 1 1, 3) := by decide +kernel
theorem dX11_init_233 : decode cX11_init 233 = .ok (.goto (-21), 3) := by decide +kernel
theorem dX11_init_236 : decode cX11_init 236 = .ok (.return_, 1) := by decide +kernel
theorem dX11_sign_0 : decode cX11_sign 0 = .ok (.aload_n 0, 1) := by decide +kernel
theorem dX11_sign_1 : decode cX11_sign 1 = .ok (.getfield 10, 3) := by decide +kernel
theorem dX11_sign_4 : decode cX11_sign 4 = .ok (.iload_n 1, 1) := by decide +kernel
theorem dX11_sign_5 : decode cX11_sign 5 = .ok (.invokevirtual 102, 3) := by decide +kernel
theorem dX11_sign_8 : decode cX11_sign 8 = .ok (.ifCond .eq 13, 3) := by decide +kernel
theorem dX11_sign_11 : decode cX11_sign 11 = .ok (.aload_n 0, 1) := by decide +kernel
theorem dX11_sign_12 : decode cX11_sign 12 = .ok (.getfield 10, 3) := by decide +kernel
theorem dX11_sign_15 : decode cX11_sign 15 = .ok (.invokevirtual 106, 3) := by decide +kernel
theorem dX11_sign_18 : decode cX11_sign 18 = .ok (.goto 4, 3) := by decide +kernel
theorem dX11_sign_21 : decode cX11_sign 21 = .ok (.iconst (-1), 1) := by decide +kernel
theorem dX11_sign_22 : decode cX11_sign 22 = .ok (.ireturn, 1) := by decide +kernel
theorem dX11_end_0 : decode cX11_end 0 = .ok (.aload_n 0, 1) := by decide +kernel
theorem dX11_end_1 : decode cX11_end 1 = .ok (.getfield 10, 3) := by decide +kernel
theorem dX11_end_4 : decode cX11_end 4 = .ok (.iload_n 1, 1) := by decide +kernel
theorem dX11_end_5 : decode cX11_end 5 = .ok (.invokevirtual 110, 3) := by decide +kernel
theorem dX11_end_8 : decode cX11_end 8 = .ok (.ireturn, 1) := by decide +kernel
theorem dX11_lists_0 : decode cX11_lists 0 = .ok (.aload_n 0, 1) := by decide +kernel
theorem dX11_lists_1 : decode cX11_lists 1 = .ok (.getfield 10, 3) := by decide +kernel
theorem dX11_lists_4 : decode cX11_lists 4 = .ok (.aload_n 0, 1) := by decide +kernel
theorem dX11_lists_5 : decode cX11_lists 5 = .ok (.getfield 81, 3) := by decide +kernel
theorem dX11_lists_8 : decode cX11_lists 8 = .ok (.invokevirtual 113, 3) := by decide +kernel
theorem dX11_lists_11 : decode cX11_lists 11 = .ok (.istore_n 2, 1) := by decide +kernel
theorem dX11_lists_12 : decode cX11_lists 12 = .ok (.aload_n 0, 1) := by decide +kernel
theorem dX11_lists_13 : decode cX11_lists 13 = .ok (.getfield 10, 3) := by decide +kernel
theorem dX11_lists_16 : decode cX11_lists 16 = .ok (.invokevirtual 117, 3) := by decide +kernel
theorem dX11_lists_19 : decode cX11_lists 19 = .ok (.iload_n 2, 1) := by decide +kernel
theorem dX11_lists_20 : decode cX11_lists 20 = .ok (.ifCond .ge 5, 3) := by decide +kernel
theorem dX11_lists_23 : decode cX11_lists 23 = .ok (.iload_n 2, 1) := by decide +kernel
theorem dX11_lists_24 : decode cX11_lists 24 = .ok (.ireturn, 1) := by decide +kernel
theorem dX11_lists_25 : decode cX11_lists 25 = .ok (.aload_n 0, 1) := by decide +kernel
theorem dX11_lists_26 : decode cX11_lists 26 = .ok (.getfield 23, 3) := by decide +kernel
theorem dX11_lists_29 : decode cX11_lists 29 = .ok (.aload_n 0, 1) := by decide +kernel
theorem dX11_lists_30 : decode cX11_lists 30 = .ok (.getfield 19, 3) := by decide +kernel
theorem dX11_lists_33 : decode cX11_lists 33 = .ok (.invokevirtual 120, 3) := by decide +kernel
theorem dX11_lists_36 : decode cX11_lists 36 = .ok (.aload_n 0, 1) := by decide +kernel
theorem dX11_lists_37 : decode cX11_lists 37 = .ok (.aload_n 0, 1) := by decide +kernel
theorem dX11_lists_38 : decode cX11_lists 38 = .ok (.getfield 19, 3) := by decide +kernel
theorem dX11_lists_41 : decode cX11_lists 41 = .ok (.iload_n 1, 1) := by decide +kernel
theorem dX11_lists_42 : decode cX11_lists 42 = .ok (.aload_n 0, 1) := by decide +kernel
theorem dX11_lists_43 : decode cX11_lists 43 = .ok (.getfield 81, 3) := by decide +kernel
theorem dX11_lists_46 : decode cX11_lists 46 = .ok (.iload_n 2, 1) := by decide +kernel
theorem dX11_lists_47 : decode cX11_lists 47 = .ok (.invokevirtual 124, 3) := by decide +kernel
theorem dX11_lists_50 : decode cX11_lists 50 = .ok (.invokevirtual 128, 3) := by decide +kernel
theorem dX11_lists_53 : decode cX11_lists 53 = .ok (.ireturn, 1) := by decide +kernel
theorem dX11_rule_0 : decode cX11_rule 0 = .ok (.aload_n 0, 1) := by decide +kernel
theorem dX11_rule_1 : decode cX11_rule 1 = .ok (.getfield 92, 3) := by decide +kernel
theorem dX11_rule_4 : decode cX11_rule 4 = .ok (.aload_n 0, 1) := by decide +kernel
theorem dX11_rule_5 : decode cX11_rule 5 = .ok (.getfield 10, 3) := by decide +kernel
theorem dX11_rule_8 : decode cX11_rule 8 = .ok (.invokevirtual 132, 3) := by decide +kernel
theorem dX11_rule_11 : decode cX11_rule 11 = .ok (.istore_n 1, 1) := by decide +kernel
theorem dX11_rule_12 : decode cX11_rule 12 = .ok (.aload_n 0, 1) := by decide +kernel
theorem dX11_rule_13 : decode cX11_rule 13 = .ok (.getfield 10, 3) := by decide +kernel
theorem dX11_rule_16 : decode cX11_rule 16 = .ok (.invokevirtual 117, 3) := by decide +kernel
theorem dX11_rule_19 : decode cX11_rule 19 = .ok (.iload_n 1, 1) := by decide +kernel
theorem dX11_rule_20 : decode cX11_rule 20 = .ok (.iconst (-1), 1) := by decide +kernel
theorem dX11_rule_21 : decode cX11_rule 21 = .ok (.if_icmp .eq 7, 3) := by decide +kernel
theorem dX11_rule_24 : decode cX11_rule 24 = .ok (.iconst (-1), 1) := by decide +kernel
theorem dX11_rule_25 : decode cX11_rule 25 = .ok (.iload_n 1, 1) := by decide +kernel
theorem dX11_rule_26 : decode cX11_rule 26 = .ok (.isub, 1) := by decide +kernel
theorem dX11_rule_27 : decode cX11_rule 27 = .ok (.ireturn, 1) := by decide +kernel
theorem dX11_rule_28 : decode cX11_rule 28 = .ok (.aload_n 0, 1) := by decide +kernel
theorem dX11_rule_29 : decode cX11_rule 29 = .ok (.getfield 88, 3) := by decide +kernel
theorem dX11_rule_32 : decode cX11_rule 32 = .ok (.astore_n 2, 1) := by decide +kernel
theorem dX11_rule_33 : decode cX11_rule 33 = .ok (.aload_n 0, 1) := by decide +kernel
theorem dX11_rule_34 : decode cX11_rule 34 = .ok (.aload_n 0, 1) := by decide +kernel
theorem dX11_rule_35 : decode cX11_rule 35 = .ok (.getfield 92, 3) := by decide +kernel
theorem dX11_rule_38 : decode cX11_rule 38 = .ok (.putfield 88, 3) := by decide +kernel
theorem dX11_rule_41 : decode cX11_rule 41 = .ok (.aload_n 0, 1) := by decide +kernel
theorem dX11_rule_42 : decode cX11_rule 42 = .ok (.aload_n 2, 1) := by decide +kernel
theorem dX11_rule_43 : decode cX11_rule 43 = .ok (.putfield 92, 3) := by decide +kernel
theorem dX11_rule_46 : decode cX11_rule 46 = .ok (.aload_n 0, 1) := by decide +kernel
theorem dX11_rule_47 : decode cX11_rule 47 = .ok (.invokevirtual 136, 3) := by decide +kernel
theorem dX11_rule_50 : decode cX11_rule 50 = .ok (.iconst 0, 1) := by decide +kernel
theorem dX11_rule_51 : decode cX11_rule 51 = .ok (.ireturn, 1) := by decide +kernel
theorem dX11_number_0 : decode cX11_number 0 = .ok (.aload_n 0, 1) := by decide +kernel
theorem dX11_number_1 : decode cX11_number 1 = .ok (.getfield 19, 3) := by decide +kernel
theorem dX11_number_4 : decode cX11_number 4 = .ok (.iload_n 1, 1) := by decide +kernel
theorem dX11_number_5 : decode cX11_number 5 = .ok (.iload_n 2, 1) := by decide +kernel
theorem dX11_number_6 : decode cX11_number 6 = .ok (.invokevirtual 139, 3) := by decide +kernel
theorem dX11_number_9 : decode cX11_number 9 = .ok (.istore_n 3, 1) := by decide +kernel
theorem dX11_number_10 : decode cX11_number 10 = .ok (.iload_n 3, 1) := by decide +kernel
theorem dX11_number_11 : decode cX11_number 11 = .ok (.ifCond .ge 13, 3) := by decide +kernel
theorem dX11_number_14 : decode cX11_number 14 = .ok (.new 143, 3) := by decide +kernel
theorem dX11_number_17 : decode cX11_number 17 = .ok (.dup, 1) := by decide +kernel
theorem dX11_number_18 : decode cX11_number 18 = .ok (.ldc 145, 2) := by decide +kernel
theorem dX11_number_20 : decode cX11_number 20 = .ok (.invokespecial 147, 3) := by decide +kernel
theorem dX11_number_23 : decode cX11_number 23 = .ok (.athrow, 1) := by decide +kernel
theorem dX11_number_24 : decode cX11_number 24 = .ok (.iload_n 3, 1) := by decide +kernel
theorem dX11_number_25 : decode cX11_number 25 = .ok (.ireturn, 1) := by decide +kernel
theorem dX11_edge_0 : decode cX11_edge 0 = .ok (.aload_n 0, 1) := by decide +kernel
theorem dX11_edge_1 : decode cX11_edge 1 = .ok (.getfield 19, 3) := by decide +kernel
theorem dX11_edge_4 : decode cX11_edge 4 = .ok (.iload_n 1, 1) := by decide +kernel
theorem dX11_edge_5 : decode cX11_edge 5 = .ok (.invokevirtual 150, 3) := by decide +kernel
theorem dX11_edge_8 : decode cX11_edge 8 = .ok (.istore_n 3, 1) := by decide +kernel
theorem dX11_edge_9 : decode cX11_edge 9 = .ok (.iload_n 3, 1) := by decide +kernel
theorem dX11_edge_10 : decode cX11_edge 10 = .ok (.ifCond .lt 12, 3) := by decide +kernel
theorem dX11_edge_13 : decode cX11_edge 13 = .ok (.iload_n 2, 1) := by decide +kernel
theorem dX11_edge_14 : decode cX11_edge 14 = .ok (.ifCond .lt 8, 3) := by decide +kernel
theorem dX11_edge_17 : decode cX11_edge 17 = .ok (.iload_n 2, 1) := by decide +kernel
theorem dX11_edge_18 : decode cX11_edge 18 = .ok (.iconst 2, 1) := by decide +kernel
theorem dX11_edge_19 : decode cX11_edge 19 = .ok (.if_icmp .le 13, 3) := by decide +kernel
theorem dX11_edge_22 : decode cX11_edge 22 = .ok (.new 143, 3) := by decide +kernel
theorem dX11_edge_25 : decode cX11_edge 25 = .ok (.dup, 1) := by decide +kernel
theorem dX11_edge_26 : decode cX11_edge 26 = .ok (.ldc 153, 2) := by decide +kernel
theorem dX11_edge_28 : decode cX11_edge 28 = .ok (.invokespecial 147, 3) := by decide +kernel
theorem dX11_edge_31 : decode cX11_edge 31 = .ok (.athrow, 1) := by decide +kernel
theorem dX11_edge_32 : decode cX11_edge 32 = .ok (.iload_n 3, 1) := by decide +kernel
theorem dX11_edge_33 : decode cX11_edge 33 = .ok (.bipush 7, 2) := by decide +kernel
theorem dX11_edge_35 : decode cX11_edge 35 = .ok (.idiv, 1) := by decide +kernel
theorem dX11_edge_36 : decode cX11_edge 36 = .ok (.istore 4, 2) := by decide +kernel
theorem dX11_edge_38 : decode cX11_edge 38 = .ok (.iload_n 3, 1) := by decide +kernel
theorem dX11_edge_39 : decode cX11_edge 39 = .ok (.bipush 7, 2) := by decide +kernel
theorem dX11_edge_41 : decode cX11_edge 41 = .ok (.irem, 1) := by decide +kernel
theorem dX11_edge_42 : decode cX11_edge 42 = .ok (.istore 5, 2) := by decide +kernel
theorem dX11_edge_44 : decode cX11_edge 44 = .ok (.iload_n 2, 1) := by decide +kernel
theorem dX11_edge_45 : decode cX11_edge 45 = .ok (.iconst 2, 1) := by decide +kernel
theorem dX11_edge_46 : decode cX11_edge 46 = .ok (.if_icmp .ne 15, 3) := by decide +kernel
theorem dX11_edge_49 : decode cX11_edge 49 = .ok (.aload_n 0, 1) := by decide +kernel
theorem dX11_edge_50 : decode cX11_edge 50 = .ok (.getfield 19, 3) := by decide +kernel
theorem dX11_edge_53 : decode cX11_edge 53 = .ok (.iload 4, 2) := by decide +kernel
theorem dX11_edge_55 : decode cX11_edge 55 = .ok (.iload 5, 2) := by decide +kernel
theorem dX11_edge_57 : decode cX11_edge 57 = .ok (.invokevirtual 155, 3) := by decide +kernel
theorem dX11_edge_60 : decode cX11_edge 60 = .ok (.ireturn, 1) := by decide +kernel
theorem dX11_edge_61 : decode cX11_edge 61 = .ok (.iload_n 2, 1) := by decide +kernel
theorem dX11_edge_62 : decode cX11_edge 62 = .ok (.ifCond .ne 8, 3) := by decide +kernel
theorem dX11_edge_65 : decode cX11_edge 65 = .ok (.iload 4, 2) := by decide +kernel
theorem dX11_edge_67 : decode cX11_edge 67 = .ok (.goto 5, 3) := by decide +kernel
theorem dX11_edge_70 : decode cX11_edge 70 = .ok (.iload 5, 2) := by decide +kernel
theorem dX11_edge_72 : decode cX11_edge 72 = .ok (.ireturn, 1) := by decide +kernel
theorem dX11_sheet_0 : decode cX11_sheet 0 = .ok (.iload_n 1, 1) := by decide +kernel
theorem dX11_sheet_1 : decode cX11_sheet 1 = .ok (.ifCond .lt 14, 3) := by decide +kernel
theorem dX11_sheet_4 : decode cX11_sheet 4 = .ok (.iload_n 1, 1) := by decide +kernel
theorem dX11_sheet_5 : decode cX11_sheet 5 = .ok (.iconst 3, 1) := by decide +kernel
theorem dX11_sheet_6 : decode cX11_sheet 6 = .ok (.if_icmp .gt 9, 3) := by decide +kernel
theorem dX11_sheet_9 : decode cX11_sheet 9 = .ok (.iload_n 2, 1) := by decide +kernel
theorem dX11_sheet_10 : decode cX11_sheet 10 = .ok (.bipush 12, 2) := by decide +kernel
theorem dX11_sheet_12 : decode cX11_sheet 12 = .ok (.if_icmp .le 5, 3) := by decide +kernel
theorem dX11_sheet_15 : decode cX11_sheet 15 = .ok (.iconst (-1), 1) := by decide +kernel
theorem dX11_sheet_16 : decode cX11_sheet 16 = .ok (.ireturn, 1) := by decide +kernel
theorem dX11_sheet_17 : decode cX11_sheet 17 = .ok (.iload_n 1, 1) := by decide +kernel
theorem dX11_sheet_18 : decode cX11_sheet 18 = .ok (.iconst 3, 1) := by decide +kernel
theorem dX11_sheet_19 : decode cX11_sheet 19 = .ok (.if_icmp .eq 10, 3) := by decide +kernel
theorem dX11_sheet_22 : decode cX11_sheet 22 = .ok (.iload_n 2, 1) := by decide +kernel
theorem dX11_sheet_23 : decode cX11_sheet 23 = .ok (.ifCond .ge 6, 3) := by decide +kernel
theorem dX11_sheet_26 : decode cX11_sheet 26 = .ok (.bipush (-2), 2) := by decide +kernel
theorem dX11_sheet_28 : decode cX11_sheet 28 = .ok (.ireturn, 1) := by decide +kernel
theorem dX11_sheet_29 : decode cX11_sheet 29 = .ok (.aload_n 0, 1) := by decide +kernel
theorem dX11_sheet_30 : decode cX11_sheet 30 = .ok (.getfield 19, 3) := by decide +kernel
theorem dX11_sheet_33 : decode cX11_sheet 33 = .ok (.iload_n 1, 1) := by decide +kernel
theorem dX11_sheet_34 : decode cX11_sheet 34 = .ok (.iload_n 1, 1) := by decide +kernel
theorem dX11_sheet_35 : decode cX11_sheet 35 = .ok (.iconst 3, 1) := by decide +kernel
theorem dX11_sheet_36 : decode cX11_sheet 36 = .ok (.if_icmp .ne 7, 3) := by decide +kernel
theorem dX11_sheet_39 : decode cX11_sheet 39 = .ok (.iconst 0, 1) := by decide +kernel
theorem dX11_sheet_40 : decode cX11_sheet 40 = .ok (.goto 4, 3) := by decide +kernel
theorem dX11_sheet_43 : decode cX11_sheet 43 = .ok (.iload_n 2, 1) := by decide +kernel
theorem dX11_sheet_44 : decode cX11_sheet 44 = .ok (.iload_n 3, 1) := by decide +kernel
theorem dX11_sheet_45 : decode cX11_sheet 45 = .ok (.iload 4, 2) := by decide +kernel
theorem dX11_sheet_47 : decode cX11_sheet 47 = .ok (.invokevirtual 158, 3) := by decide +kernel
theorem dX11_sheet_50 : decode cX11_sheet 50 = .ok (.istore 5, 2) := by decide +kernel
theorem dX11_sheet_52 : decode cX11_sheet 52 = .ok (.aload_n 0, 1) := by decide +kernel
theorem dX11_sheet_53 : decode cX11_sheet 53 = .ok (.invokevirtual 136, 3) := by decide +kernel
theorem dX11_sheet_56 : decode cX11_sheet 56 = .ok (.iload_n 1, 1) := by decide +kernel
theorem dX11_sheet_57 : decode cX11_sheet 57 = .ok (.iconst 3, 1) := by decide +kernel
theorem dX11_sheet_58 : decode cX11_sheet 58 = .ok (.if_icmp .ne 8, 3) := by decide +kernel
theorem dX11_sheet_61 : decode cX11_sheet 61 = .ok (.bipush (-3), 2) := by decide +kernel
theorem dX11_sheet_63 : decode cX11_sheet 63 = .ok (.goto 5, 3) := by decide +kernel
theorem dX11_sheet_66 : decode cX11_sheet 66 = .ok (.iload 5, 2) := by decide +kernel
theorem dX11_sheet_68 : decode cX11_sheet 68 = .ok (.ireturn, 1) := by decide +kernel
theorem dX11_puts_0 : decode cX11_puts 0 = .ok (.aload_n 0, 1) := by decide +kernel
theorem dX11_puts_1 : decode cX11_puts 1 = .ok (.getfield 23, 3) := by decide +kernel
theorem dX11_puts_4 : decode cX11_puts 4 = .ok (.aload_n 0, 1) := by decide +kernel
theorem dX11_puts_5 : decode cX11_puts 5 = .ok (.getfield 19, 3) := by decide +kernel
theorem dX11_puts_8 : decode cX11_puts 8 = .ok (.invokevirtual 120, 3) := by decide +kernel
theorem dX11_puts_11 : decode cX11_puts 11 = .ok (.aload_n 0, 1) := by decide +kernel
theorem dX11_puts_12 : decode cX11_puts 12 = .ok (.aload_n 0, 1) := by decide +kernel
theorem dX11_puts_13 : decode cX11_puts 13 = .ok (.getfield 19, 3) := by decide +kernel
theorem dX11_puts_16 : decode cX11_puts 16 = .ok (.iload_n 1, 1) := by decide +kernel
theorem dX11_puts_17 : decode cX11_puts 17 = .ok (.iload_n 2, 1) := by decide +kernel
theorem dX11_puts_18 : decode cX11_puts 18 = .ok (.invokevirtual 162, 3) := by decide +kernel
theorem dX11_puts_21 : decode cX11_puts 21 = .ok (.invokevirtual 128, 3) := by decide +kernel
theorem dX11_puts_24 : decode cX11_puts 24 = .ok (.ireturn, 1) := by decide +kernel
theorem dX11_takes_0 : decode cX11_takes 0 = .ok (.aload_n 0, 1) := by decide +kernel
theorem dX11_takes_1 : decode cX11_takes 1 = .ok (.getfield 23, 3) := by decide +kernel
theorem dX11_takes_4 : decode cX11_takes 4 = .ok (.aload_n 0, 1) := by decide +kernel
theorem dX11_takes_5 : decode cX11_takes 5 = .ok (.getfield 19, 3) := by decide +kernel
theorem dX11_takes_8 : decode cX11_takes 8 = .ok (.invokevirtual 120, 3) := by decide +kernel
theorem dX11_takes_11 : decode cX11_takes 11 = .ok (.aload_n 0, 1) := by decide +kernel
theorem dX11_takes_12 : decode cX11_takes 12 = .ok (.aload_n 0, 1) := by decide +kernel
theorem dX11_takes_13 : decode cX11_takes 13 = .ok (.getfield 19, 3) := by decide +kernel
theorem dX11_takes_16 : decode cX11_takes 16 = .ok (.iload_n 1, 1) := by decide +kernel
theorem dX11_takes_17 : decode cX11_takes 17 = .ok (.iload_n 2, 1) := by decide +kernel
theorem dX11_takes_18 : decode cX11_takes 18 = .ok (.invokevirtual 165, 3) := by decide +kernel
theorem dX11_takes_21 : decode cX11_takes 21 = .ok (.invokevirtual 128, 3) := by decide +kernel
theorem dX11_takes_24 : decode cX11_takes 24 = .ok (.ireturn, 1) := by decide +kernel
theorem dX11_joins_0 : decode cX11_joins 0 = .ok (.aload_n 0, 1) := by decide +kernel
theorem dX11_joins_1 : decode cX11_joins 1 = .ok (.getfield 23, 3) := by decide +kernel
theorem dX11_joins_4 : decode cX11_joins 4 = .ok (.aload_n 0, 1) := by decide +kernel
theorem dX11_joins_5 : decode cX11_joins 5 = .ok (.getfield 19, 3) := by decide +kernel
theorem dX11_joins_8 : decode cX11_joins 8 = .ok (.invokevirtual 120, 3) := by decide +kernel
theorem dX11_joins_11 : decode cX11_joins 11 = .ok (.aload_n 0, 1) := by decide +kernel
theorem dX11_joins_12 : decode cX11_joins 12 = .ok (.aload_n 0, 1) := by decide +kernel
theorem dX11_joins_13 : decode cX11_joins 13 = .ok (.getfield 19, 3) := by decide +kernel
theorem dX11_joins_16 : decode cX11_joins 16 = .ok (.iload_n 1, 1) := by decide +kernel
theorem dX11_joins_17 : decode cX11_joins 17 = .ok (.iload_n 2, 1) := by decide +kernel
theorem dX11_joins_18 : decode cX11_joins 18 = .ok (.iload_n 3, 1) := by decide +kernel
theorem dX11_joins_19 : decode cX11_joins 19 = .ok (.invokevirtual 168, 3) := by decide +kernel
theorem dX11_joins_22 : decode cX11_joins 22 = .ok (.invokevirtual 128, 3) := by decide +kernel
theorem dX11_joins_25 : decode cX11_joins 25 = .ok (.ireturn, 1) := by decide +kernel
theorem dX11_costs_0 : decode cX11_costs 0 = .ok (.aload_n 0, 1) := by decide +kernel
theorem dX11_costs_1 : decode cX11_costs 1 = .ok (.getfield 23, 3) := by decide +kernel
theorem dX11_costs_4 : decode cX11_costs 4 = .ok (.aload_n 0, 1) := by decide +kernel
theorem dX11_costs_5 : decode cX11_costs 5 = .ok (.getfield 19, 3) := by decide +kernel
theorem dX11_costs_8 : decode cX11_costs 8 = .ok (.invokevirtual 120, 3) := by decide +kernel
theorem dX11_costs_11 : decode cX11_costs 11 = .ok (.aload_n 0, 1) := by decide +kernel
theorem dX11_costs_12 : decode cX11_costs 12 = .ok (.aload_n 0, 1) := by decide +kernel
theorem dX11_costs_13 : decode cX11_costs 13 = .ok (.getfield 19, 3) := by decide +kernel
theorem dX11_costs_16 : decode cX11_costs 16 = .ok (.iload_n 1, 1) := by decide +kernel
theorem dX11_costs_17 : decode cX11_costs 17 = .ok (.iload_n 2, 1) := by decide +kernel
theorem dX11_costs_18 : decode cX11_costs 18 = .ok (.iload_n 3, 1) := by decide +kernel
theorem dX11_costs_19 : decode cX11_costs 19 = .ok (.invokevirtual 172, 3) := by decide +kernel
theorem dX11_costs_22 : decode cX11_costs 22 = .ok (.invokevirtual 128, 3) := by decide +kernel
theorem dX11_costs_25 : decode cX11_costs 25 = .ok (.ireturn, 1) := by decide +kernel
theorem dX11_sets_0 : decode cX11_sets 0 = .ok (.aload_n 0, 1) := by decide +kernel
theorem dX11_sets_1 : decode cX11_sets 1 = .ok (.getfield 23, 3) := by decide +kernel
theorem dX11_sets_4 : decode cX11_sets 4 = .ok (.aload_n 0, 1) := by decide +kernel
theorem dX11_sets_5 : decode cX11_sets 5 = .ok (.getfield 19, 3) := by decide +kernel
theorem dX11_sets_8 : decode cX11_sets 8 = .ok (.invokevirtual 120, 3) := by decide +kernel
theorem dX11_sets_11 : decode cX11_sets 11 = .ok (.aload_n 0, 1) := by decide +kernel
theorem dX11_sets_12 : decode cX11_sets 12 = .ok (.aload_n 0, 1) := by decide +kernel
theorem dX11_sets_13 : decode cX11_sets 13 = .ok (.getfield 19, 3) := by decide +kernel
theorem dX11_sets_16 : decode cX11_sets 16 = .ok (.iload_n 1, 1) := by decide +kernel
theorem dX11_sets_17 : decode cX11_sets 17 = .ok (.iload_n 2, 1) := by decide +kernel
theorem dX11_sets_18 : decode cX11_sets 18 = .ok (.invokevirtual 175, 3) := by decide +kernel
theorem dX11_sets_21 : decode cX11_sets 21 = .ok (.invokevirtual 128, 3) := by decide +kernel
theorem dX11_sets_24 : decode cX11_sets 24 = .ok (.ireturn, 1) := by decide +kernel
theorem dX11_ends_0 : decode cX11_ends 0 = .ok (.aload_n 0, 1) := by decide +kernel
theorem dX11_ends_1 : decode cX11_ends 1 = .ok (.getfield 23, 3) := by decide +kernel
theorem dX11_ends_4 : decode cX11_ends 4 = .ok (.aload_n 0, 1) := by decide +kernel
theorem dX11_ends_5 : decode cX11_ends 5 = .ok (.getfield 19, 3) := by decide +kernel
theorem dX11_ends_8 : decode cX11_ends 8 = .ok (.invokevirtual 120, 3) := by decide +kernel
theorem dX11_ends_11 : decode cX11_ends 11 = .ok (.aload_n 0, 1) := by decide +kernel
theorem dX11_ends_12 : decode cX11_ends 12 = .ok (.aload_n 0, 1) := by decide +kernel
theorem dX11_ends_13 : decode cX11_ends 13 = .ok (.getfield 19, 3) := by decide +kernel
theorem dX11_ends_16 : decode cX11_ends 16 = .ok (.iload_n 1, 1) := by decide +kernel
theorem dX11_ends_17 : decode cX11_ends 17 = .ok (.iload_n 2, 1) := by decide +kernel
theorem dX11_ends_18 : decode cX11_ends 18 = .ok (.invokevirtual 178, 3) := by decide +kernel
theorem dX11_ends_21 : decode cX11_ends 21 = .ok (.invokevirtual 128, 3) := by decide +kernel
theorem dX11_ends_24 : decode cX11_ends 24 = .ok (.ireturn, 1) := by decide +kernel
theorem dX11_day_0 : decode cX11_day 0 = .ok (.aload_n 0, 1) := by decide +kernel
theorem dX11_day_1 : decode cX11_day 1 = .ok (.getfield 10, 3) := by decide +kernel
theorem dX11_day_4 : decode cX11_day 4 = .ok (.invokestatic 181, 3) := by decide +kernel
theorem dX11_day_7 : decode cX11_day 7 = .ok (.istore_n 1, 1) := by decide +kernel
theorem dX11_day_8 : decode cX11_day 8 = .ok (.iload_n 1, 1) := by decide +kernel
theorem dX11_day_9 : decode cX11_day 9 = .ok (.iconst (-1), 1) := by decide +kernel
theorem dX11_day_10 : decode cX11_day 10 = .ok (.if_icmp .eq 14, 3) := by decide +kernel
theorem dX11_day_13 : decode cX11_day 13 = .ok (.aload_n 0, 1) := by decide +kernel
theorem dX11_day_14 : decode cX11_day 14 = .ok (.getfield 10, 3) := by decide +kernel
theorem dX11_day_17 : decode cX11_day 17 = .ok (.invokevirtual 117, 3) := by decide +kernel
theorem dX11_day_20 : decode cX11_day 20 = .ok (.iconst (-1), 1) := by decide +kernel
theorem dX11_day_21 : decode cX11_day 21 = .ok (.iload_n 1, 1) := by decide +kernel
theorem dX11_day_22 : decode cX11_day 22 = .ok (.isub, 1) := by decide +kernel
theorem dX11_day_23 : decode cX11_day 23 = .ok (.ireturn, 1) := by decide +kernel
theorem dX11_day_24 : decode cX11_day 24 = .ok (.aload_n 0, 1) := by decide +kernel
theorem dX11_day_25 : decode cX11_day 25 = .ok (.getfield 23, 3) := by decide +kernel
theorem dX11_day_28 : decode cX11_day 28 = .ok (.aload_n 0, 1) := by decide +kernel
theorem dX11_day_29 : decode cX11_day 29 = .ok (.getfield 19, 3) := by decide +kernel
theorem dX11_day_32 : decode cX11_day 32 = .ok (.invokevirtual 120, 3) := by decide +kernel
theorem dX11_day_35 : decode cX11_day 35 = .ok (.aload_n 0, 1) := by decide +kernel
theorem dX11_day_36 : decode cX11_day 36 = .ok (.getfield 29, 3) := by decide +kernel
theorem dX11_day_39 : decode cX11_day 39 = .ok (.aload_n 0, 1) := by decide +kernel
theorem dX11_day_40 : decode cX11_day 40 = .ok (.getfield 10, 3) := by decide +kernel
theorem dX11_day_43 : decode cX11_day 43 = .ok (.aload_n 0, 1) := by decide +kernel
theorem dX11_day_44 : decode cX11_day 44 = .ok (.getfield 19, 3) := by decide +kernel
theorem dX11_day_47 : decode cX11_day 47 = .ok (.invokevirtual 184, 3) := by decide +kernel
theorem dX11_day_50 : decode cX11_day 50 = .ok (.istore_n 2, 1) := by decide +kernel
theorem dX11_day_51 : decode cX11_day 51 = .ok (.aload_n 0, 1) := by decide +kernel
theorem dX11_day_52 : decode cX11_day 52 = .ok (.getfield 10, 3) := by decide +kernel
theorem dX11_day_55 : decode cX11_day 55 = .ok (.invokevirtual 117, 3) := by decide +kernel
theorem dX11_day_58 : decode cX11_day 58 = .ok (.aload_n 0, 1) := by decide +kernel
theorem dX11_day_59 : decode cX11_day 59 = .ok (.iload_n 2, 1) := by decide +kernel
theorem dX11_day_60 : decode cX11_day 60 = .ok (.ifCond .le 7, 3) := by decide +kernel
theorem dX11_day_63 : decode cX11_day 63 = .ok (.iload_n 2, 1) := by decide +kernel
theorem dX11_day_64 : decode cX11_day 64 = .ok (.goto 4, 3) := by decide +kernel
theorem dX11_day_67 : decode cX11_day 67 = .ok (.iconst (-1), 1) := by decide +kernel
theorem dX11_day_68 : decode cX11_day 68 = .ok (.invokevirtual 128, 3) := by decide +kernel
theorem dX11_day_71 : decode cX11_day 71 = .ok (.pop, 1) := by decide +kernel
theorem dX11_day_72 : decode cX11_day 72 = .ok (.aload_n 0, 1) := by decide +kernel
theorem dX11_day_73 : decode cX11_day 73 = .ok (.getfield 77, 3) := by decide +kernel
theorem dX11_day_76 : decode cX11_day 76 = .ok (.aload_n 0, 1) := by decide +kernel
theorem dX11_day_77 : decode cX11_day 77 = .ok (.getfield 29, 3) := by decide +kernel
theorem dX11_day_80 : decode cX11_day 80 = .ok (.invokevirtual 188, 3) := by decide +kernel
theorem dX11_day_83 : decode cX11_day 83 = .ok (.ifCond .eq 7, 3) := by decide +kernel
theorem dX11_day_86 : decode cX11_day 86 = .ok (.lconst 1, 1) := by decide +kernel
theorem dX11_day_87 : decode cX11_day 87 = .ok (.goto 4, 3) := by decide +kernel
theorem dX11_day_90 : decode cX11_day 90 = .ok (.lconst 0, 1) := by decide +kernel
theorem dX11_day_91 : decode cX11_day 91 = .ok (.invokevirtual 192, 3) := by decide +kernel
theorem dX11_day_94 : decode cX11_day 94 = .ok (.iload_n 2, 1) := by decide +kernel
theorem dX11_day_95 : decode cX11_day 95 = .ok (.ireturn, 1) := by decide +kernel
theorem dX11_undo_0 : decode cX11_undo 0 = .ok (.aload_n 0, 1) := by decide +kernel
theorem dX11_undo_1 : decode cX11_undo 1 = .ok (.getfield 36, 3) := by decide +kernel
theorem dX11_undo_4 : decode cX11_undo 4 = .ok (.aload_n 0, 1) := by decide +kernel
theorem dX11_undo_5 : decode cX11_undo 5 = .ok (.getfield 19, 3) := by decide +kernel
theorem dX11_undo_8 : decode cX11_undo 8 = .ok (.invokevirtual 196, 3) := by decide +kernel
theorem dX11_undo_11 : decode cX11_undo 11 = .ok (.ifCond .ne 5, 3) := by decide +kernel
theorem dX11_undo_14 : decode cX11_undo 14 = .ok (.iconst (-1), 1) := by decide +kernel
theorem dX11_undo_15 : decode cX11_undo 15 = .ok (.ireturn, 1) := by decide +kernel
theorem dX11_undo_16 : decode cX11_undo 16 = .ok (.aload_n 0, 1) := by decide +kernel
theorem dX11_undo_17 : decode cX11_undo 17 = .ok (.invokevirtual 136, 3) := by decide +kernel
theorem dX11_undo_20 : decode cX11_undo 20 = .ok (.aload_n 0, 1) := by decide +kernel
theorem dX11_undo_21 : decode cX11_undo 21 = .ok (.getfield 36, 3) := by decide +kernel
theorem dX11_undo_24 : decode cX11_undo 24 = .ok (.invokevirtual 200, 3) := by decide +kernel
theorem dX11_undo_27 : decode cX11_undo 27 = .ok (.ireturn, 1) := by decide +kernel
theorem dX11_best_0 : decode cX11_best 0 = .ok (.iload_n 1, 1) := by decide +kernel
theorem dX11_best_1 : decode cX11_best 1 = .ok (.invokestatic 203, 3) := by decide +kernel
theorem dX11_best_4 : decode cX11_best 4 = .ok (.ifCond .eq 13, 3) := by decide +kernel
theorem dX11_best_7 : decode cX11_best 7 = .ok (.iload_n 2, 1) := by decide +kernel
theorem dX11_best_8 : decode cX11_best 8 = .ok (.sipush 400, 3) := by decide +kernel
theorem dX11_best_11 : decode cX11_best 11 = .ok (.invokestatic 206, 3) := by decide +kernel
theorem dX11_best_14 : decode cX11_best 14 = .ok (.ifCond .ne 5, 3) := by decide +kernel
theorem dX11_best_17 : decode cX11_best 17 = .ok (.iconst (-1), 1) := by decide +kernel
theorem dX11_best_18 : decode cX11_best 18 = .ok (.ireturn, 1) := by decide +kernel
theorem dX11_best_19 : decode cX11_best 19 = .ok (.aload_n 0, 1) := by decide +kernel
theorem dX11_best_20 : decode cX11_best 20 = .ok (.iload_n 1, 1) := by decide +kernel
theorem dX11_best_21 : decode cX11_best 21 = .ok (.invokevirtual 210, 3) := by decide +kernel
theorem dX11_best_24 : decode cX11_best 24 = .ok (.astore_n 3, 1) := by decide +kernel
theorem dX11_best_25 : decode cX11_best 25 = .ok (.iload_n 2, 1) := by decide +kernel
theorem dX11_best_26 : decode cX11_best 26 = .ok (.aload_n 3, 1) := by decide +kernel
theorem dX11_best_27 : decode cX11_best 27 = .ok (.invokevirtual 214, 3) := by decide +kernel
theorem dX11_best_30 : decode cX11_best 30 = .ok (.if_icmp .le 6, 3) := by decide +kernel
theorem dX11_best_33 : decode cX11_best 33 = .ok (.bipush (-2), 2) := by decide +kernel
theorem dX11_best_35 : decode cX11_best 35 = .ok (.ireturn, 1) := by decide +kernel
theorem dX11_best_36 : decode cX11_best 36 = .ok (.aload_n 0, 1) := by decide +kernel
theorem dX11_best_37 : decode cX11_best 37 = .ok (.aload_n 3, 1) := by decide +kernel
theorem dX11_best_38 : decode cX11_best 38 = .ok (.iload_n 2, 1) := by decide +kernel
theorem dX11_best_39 : decode cX11_best 39 = .ok (.invokevirtual 215, 3) := by decide +kernel
theorem dX11_best_42 : decode cX11_best 42 = .ok (.ireturn, 1) := by decide +kernel
theorem dX11_many_0 : decode cX11_many 0 = .ok (.iload_n 1, 1) := by decide +kernel
theorem dX11_many_1 : decode cX11_many 1 = .ok (.invokestatic 203, 3) := by decide +kernel
theorem dX11_many_4 : decode cX11_many 4 = .ok (.ifCond .ne 5, 3) := by decide +kernel
theorem dX11_many_7 : decode cX11_many 7 = .ok (.iconst (-1), 1) := by decide +kernel
theorem dX11_many_8 : decode cX11_many 8 = .ok (.ireturn, 1) := by decide +kernel
theorem dX11_many_9 : decode cX11_many 9 = .ok (.aload_n 0, 1) := by decide +kernel
theorem dX11_many_10 : decode cX11_many 10 = .ok (.iload_n 1, 1) := by decide +kernel
theorem dX11_many_11 : decode cX11_many 11 = .ok (.invokevirtual 210, 3) := by decide +kernel
theorem dX11_many_14 : decode cX11_many 14 = .ok (.astore_n 2, 1) := by decide +kernel
theorem dX11_many_15 : decode cX11_many 15 = .ok (.aload_n 2, 1) := by decide +kernel
theorem dX11_many_16 : decode cX11_many 16 = .ok (.invokevirtual 214, 3) := by decide +kernel
theorem dX11_many_19 : decode cX11_many 19 = .ok (.istore_n 3, 1) := by decide +kernel
theorem dX11_many_20 : decode cX11_many 20 = .ok (.aload_n 0, 1) := by decide +kernel
theorem dX11_many_21 : decode cX11_many 21 = .ok (.getfield 77, 3) := by decide +kernel
theorem dX11_many_24 : decode cX11_many 24 = .ok (.invokevirtual 219, 3) := by decide +kernel
theorem dX11_many_27 : decode cX11_many 27 = .ok (.iload_n 3, 1) := by decide +kernel
theorem dX11_many_28 : decode cX11_many 28 = .ok (.ifCond .le 46, 3) := by decide +kernel
theorem dX11_many_31 : decode cX11_many 31 = .ok (.aload_n 0, 1) := by decide +kernel
theorem dX11_many_32 : decode cX11_many 32 = .ok (.getfield 77, 3) := by decide +kernel
theorem dX11_many_35 : decode cX11_many 35 = .ok (.aload_n 2, 1) := by decide +kernel
theorem dX11_many_36 : decode cX11_many 36 = .ok (.iconst 1, 1) := by decide +kernel
theorem dX11_many_37 : decode cX11_many 37 = .ok (.invokevirtual 220, 3) := by decide +kernel
theorem dX11_many_40 : decode cX11_many 40 = .ok (.i2l, 1) := by decide +kernel
theorem dX11_many_41 : decode cX11_many 41 = .ok (.invokevirtual 223, 3) := by decide +kernel
theorem dX11_many_44 : decode cX11_many 44 = .ok (.aload_n 0, 1) := by decide +kernel
theorem dX11_many_45 : decode cX11_many 45 = .ok (.getfield 77, 3) := by decide +kernel
theorem dX11_many_48 : decode cX11_many 48 = .ok (.aload_n 2, 1) := by decide +kernel
theorem dX11_many_49 : decode cX11_many 49 = .ok (.aload_n 2, 1) := by decide +kernel
theorem dX11_many_50 : decode cX11_many 50 = .ok (.iconst 1, 1) := by decide +kernel
theorem dX11_many_51 : decode cX11_many 51 = .ok (.invokevirtual 220, 3) := by decide +kernel
theorem dX11_many_54 : decode cX11_many 54 = .ok (.invokevirtual 226, 3) := by decide +kernel
theorem dX11_many_57 : decode cX11_many 57 = .ok (.i2l, 1) := by decide +kernel
theorem dX11_many_58 : decode cX11_many 58 = .ok (.invokevirtual 223, 3) := by decide +kernel
theorem dX11_many_61 : decode cX11_many 61 = .ok (.aload_n 0, 1) := by decide +kernel
theorem dX11_many_62 : decode cX11_many 62 = .ok (.getfield 77, 3) := by decide +kernel
theorem dX11_many_65 : decode cX11_many 65 = .ok (.aload_n 2, 1) := by decide +kernel
theorem dX11_many_66 : decode cX11_many 66 = .ok (.iload_n 3, 1) := by decide +kernel
theorem dX11_many_67 : decode cX11_many 67 = .ok (.invokevirtual 220, 3) := by decide +kernel
theorem dX11_many_70 : decode cX11_many 70 = .ok (.i2l, 1) := by decide +kernel
theorem dX11_many_71 : decode cX11_many 71 = .ok (.invokevirtual 223, 3) := by decide +kernel
theorem dX11_many_74 : decode cX11_many 74 = .ok (.iload_n 3, 1) := by decide +kernel
theorem dX11_many_75 : decode cX11_many 75 = .ok (.ireturn, 1) := by decide +kernel
theorem dX11_below_0 : decode cX11_below 0 = .ok (.iload_n 1, 1) := by decide +kernel
theorem dX11_below_1 : decode cX11_below 1 = .ok (.invokestatic 203, 3) := by decide +kernel
theorem dX11_below_4 : decode cX11_below 4 = .ok (.ifCond .ne 5, 3) := by decide +kernel
theorem dX11_below_7 : decode cX11_below 7 = .ok (.iconst (-1), 1) := by decide +kernel
theorem dX11_below_8 : decode cX11_below 8 = .ok (.ireturn, 1) := by decide +kernel
theorem dX11_below_9 : decode cX11_below 9 = .ok (.aload_n 0, 1) := by decide +kernel
theorem dX11_below_10 : decode cX11_below 10 = .ok (.iload_n 1, 1) := by decide +kernel
theorem dX11_below_11 : decode cX11_below 11 = .ok (.invokevirtual 210, 3) := by decide +kernel
theorem dX11_below_14 : decode cX11_below 14 = .ok (.astore_n 3, 1) := by decide +kernel
theorem dX11_below_15 : decode cX11_below 15 = .ok (.aload_n 3, 1) := by decide +kernel
theorem dX11_below_16 : decode cX11_below 16 = .ok (.iload_n 2, 1) := by decide +kernel
theorem dX11_below_17 : decode cX11_below 17 = .ok (.invokevirtual 226, 3) := by decide +kernel
theorem dX11_below_20 : decode cX11_below 20 = .ok (.istore 4, 2) := by decide +kernel
theorem dX11_below_22 : decode cX11_below 22 = .ok (.aload_n 0, 1) := by decide +kernel
theorem dX11_below_23 : decode cX11_below 23 = .ok (.getfield 77, 3) := by decide +kernel
theorem dX11_below_26 : decode cX11_below 26 = .ok (.invokevirtual 219, 3) := by decide +kernel
theorem dX11_below_29 : decode cX11_below 29 = .ok (.iload 4, 2) := by decide +kernel
theorem dX11_below_31 : decode cX11_below 31 = .ok (.ifCond .le 17, 3) := by decide +kernel
theorem dX11_below_34 : decode cX11_below 34 = .ok (.aload_n 0, 1) := by decide +kernel
theorem dX11_below_35 : decode cX11_below 35 = .ok (.getfield 77, 3) := by decide +kernel
theorem dX11_below_38 : decode cX11_below 38 = .ok (.aload_n 3, 1) := by decide +kernel
theorem dX11_below_39 : decode cX11_below 39 = .ok (.iload 4, 2) := by decide +kernel
theorem dX11_below_41 : decode cX11_below 41 = .ok (.invokevirtual 220, 3) := by decide +kernel
theorem dX11_below_44 : decode cX11_below 44 = .ok (.i2l, 1) := by decide +kernel
theorem dX11_below_45 : decode cX11_below 45 = .ok (.invokevirtual 223, 3) := by decide +kernel
theorem dX11_below_48 : decode cX11_below 48 = .ok (.iload 4, 2) := by decide +kernel
theorem dX11_below_50 : decode cX11_below 50 = .ok (.ireturn, 1) := by decide +kernel
theorem dX11_rank_0 : decode cX11_rank 0 = .ok (.aload_n 0, 1) := by decide +kernel
theorem dX11_rank_1 : decode cX11_rank 1 = .ok (.getfield 10, 3) := by decide +kernel
theorem dX11_rank_4 : decode cX11_rank 4 = .ok (.invokestatic 229, 3) := by decide +kernel
theorem dX11_rank_7 : decode cX11_rank 7 = .ok (.istore_n 2, 1) := by decide +kernel
theorem dX11_rank_8 : decode cX11_rank 8 = .ok (.aload_n 0, 1) := by decide +kernel
theorem dX11_rank_9 : decode cX11_rank 9 = .ok (.getfield 10, 3) := by decide +kernel
theorem dX11_rank_12 : decode cX11_rank 12 = .ok (.invokestatic 232, 3) := by decide +kernel
theorem dX11_rank_15 : decode cX11_rank 15 = .ok (.lstore_n 3, 1) := by decide +kernel
theorem dX11_rank_16 : decode cX11_rank 16 = .ok (.aload_n 0, 1) := by decide +kernel
theorem dX11_rank_17 : decode cX11_rank 17 = .ok (.getfield 10, 3) := by decide +kernel
theorem dX11_rank_20 : decode cX11_rank 20 = .ok (.invokevirtual 117, 3) := by decide +kernel
theorem dX11_rank_23 : decode cX11_rank 23 = .ok (.iload_n 2, 1) := by decide +kernel
theorem dX11_rank_24 : decode cX11_rank 24 = .ok (.iconst (-1), 1) := by decide +kernel
theorem dX11_rank_25 : decode cX11_rank 25 = .ok (.if_icmp .eq 7, 3) := by decide +kernel
theorem dX11_rank_28 : decode cX11_rank 28 = .ok (.iconst (-1), 1) := by decide +kernel
theorem dX11_rank_29 : decode cX11_rank 29 = .ok (.iload_n 2, 1) := by decide +kernel
theorem dX11_rank_30 : decode cX11_rank 30 = .ok (.isub, 1) := by decide +kernel
theorem dX11_rank_31 : decode cX11_rank 31 = .ok (.ireturn, 1) := by decide +kernel
theorem dX11_rank_32 : decode cX11_rank 32 = .ok (.iload_n 1, 1) := by decide +kernel
theorem dX11_rank_33 : decode cX11_rank 33 = .ok (.invokestatic 203, 3) := by decide +kernel
theorem dX11_rank_36 : decode cX11_rank 36 = .ok (.ifCond .ne 6, 3) := by decide +kernel
theorem dX11_rank_39 : decode cX11_rank 39 = .ok (.bipush (-101), 2) := by decide +kernel
theorem dX11_rank_41 : decode cX11_rank 41 = .ok (.ireturn, 1) := by decide +kernel
theorem dX11_rank_42 : decode cX11_rank 42 = .ok (.aload_n 0, 1) := by decide +kernel
theorem dX11_rank_43 : decode cX11_rank 43 = .ok (.iload_n 1, 1) := by decide +kernel
theorem dX11_rank_44 : decode cX11_rank 44 = .ok (.invokevirtual 210, 3) := by decide +kernel
theorem dX11_rank_47 : decode cX11_rank 47 = .ok (.astore 5, 2) := by decide +kernel
theorem dX11_rank_49 : decode cX11_rank 49 = .ok (.aload 5, 2) := by decide +kernel
theorem dX11_rank_51 : decode cX11_rank 51 = .ok (.lload_n 3, 1) := by decide +kernel
theorem dX11_rank_52 : decode cX11_rank 52 = .ok (.invokevirtual 236, 3) := by decide +kernel
theorem dX11_rank_55 : decode cX11_rank 55 = .ok (.istore 6, 2) := by decide +kernel
theorem dX11_rank_57 : decode cX11_rank 57 = .ok (.iload 6, 2) := by decide +kernel
theorem dX11_rank_59 : decode cX11_rank 59 = .ok (.ifCond .ne 6, 3) := by decide +kernel
theorem dX11_rank_62 : decode cX11_rank 62 = .ok (.bipush (-100), 2) := by decide +kernel
theorem dX11_rank_64 : decode cX11_rank 64 = .ok (.ireturn, 1) := by decide +kernel
theorem dX11_rank_65 : decode cX11_rank 65 = .ok (.aload_n 0, 1) := by decide +kernel
theorem dX11_rank_66 : decode cX11_rank 66 = .ok (.getfield 77, 3) := by decide +kernel
theorem dX11_rank_69 : decode cX11_rank 69 = .ok (.aload 5, 2) := by decide +kernel
theorem dX11_rank_71 : decode cX11_rank 71 = .ok (.iload 6, 2) := by decide +kernel
theorem dX11_rank_73 : decode cX11_rank 73 = .ok (.invokevirtual 220, 3) := by decide +kernel
theorem dX11_rank_76 : decode cX11_rank 76 = .ok (.i2l, 1) := by decide +kernel
theorem dX11_rank_77 : decode cX11_rank 77 = .ok (.invokevirtual 192, 3) := by decide +kernel
theorem dX11_rank_80 : decode cX11_rank 80 = .ok (.iload 6, 2) := by decide +kernel
theorem dX11_rank_82 : decode cX11_rank 82 = .ok (.ireturn, 1) := by decide +kernel
theorem dX11_alike_0 : decode cX11_alike 0 = .ok (.iload_n 1, 1) := by decide +kernel
theorem dX11_alike_1 : decode cX11_alike 1 = .ok (.invokestatic 203, 3) := by decide +kernel
theorem dX11_alike_4 : decode cX11_alike 4 = .ok (.ifCond .eq 13, 3) := by decide +kernel
theorem dX11_alike_7 : decode cX11_alike 7 = .ok (.iload_n 2, 1) := by decide +kernel
theorem dX11_alike_8 : decode cX11_alike 8 = .ok (.sipush 400, 3) := by decide +kernel
theorem dX11_alike_11 : decode cX11_alike 11 = .ok (.invokestatic 206, 3) := by decide +kernel
theorem dX11_alike_14 : decode cX11_alike 14 = .ok (.ifCond .ne 5, 3) := by decide +kernel
theorem dX11_alike_17 : decode cX11_alike 17 = .ok (.iconst (-1), 1) := by decide +kernel
theorem dX11_alike_18 : decode cX11_alike 18 = .ok (.ireturn, 1) := by decide +kernel
theorem dX11_alike_19 : decode cX11_alike 19 = .ok (.aload_n 0, 1) := by decide +kernel
theorem dX11_alike_20 : decode cX11_alike 20 = .ok (.iload_n 1, 1) := by decide +kernel
theorem dX11_alike_21 : decode cX11_alike 21 = .ok (.invokevirtual 210, 3) := by decide +kernel
theorem dX11_alike_24 : decode cX11_alike 24 = .ok (.astore_n 3, 1) := by decide +kernel
theorem dX11_alike_25 : decode cX11_alike 25 = .ok (.iload_n 2, 1) := by decide +kernel
theorem dX11_alike_26 : decode cX11_alike 26 = .ok (.aload_n 3, 1) := by decide +kernel
theorem dX11_alike_27 : decode cX11_alike 27 = .ok (.invokevirtual 214, 3) := by decide +kernel
theorem dX11_alike_30 : decode cX11_alike 30 = .ok (.if_icmp .le 6, 3) := by decide +kernel
theorem dX11_alike_33 : decode cX11_alike 33 = .ok (.bipush (-2), 2) := by decide +kernel
theorem dX11_alike_35 : decode cX11_alike 35 = .ok (.ireturn, 1) := by decide +kernel
theorem dX11_alike_36 : decode cX11_alike 36 = .ok (.aload_n 3, 1) := by decide +kernel
theorem dX11_alike_37 : decode cX11_alike 37 = .ok (.iload_n 2, 1) := by decide +kernel
theorem dX11_alike_38 : decode cX11_alike 38 = .ok (.invokevirtual 240, 3) := by decide +kernel
theorem dX11_alike_41 : decode cX11_alike 41 = .ok (.istore 4, 2) := by decide +kernel
theorem dX11_alike_43 : decode cX11_alike 43 = .ok (.aload_n 3, 1) := by decide +kernel
theorem dX11_alike_44 : decode cX11_alike 44 = .ok (.aload_n 3, 1) := by decide +kernel
theorem dX11_alike_45 : decode cX11_alike 45 = .ok (.iload_n 2, 1) := by decide +kernel
theorem dX11_alike_46 : decode cX11_alike 46 = .ok (.invokevirtual 220, 3) := by decide +kernel
theorem dX11_alike_49 : decode cX11_alike 49 = .ok (.invokevirtual 226, 3) := by decide +kernel
theorem dX11_alike_52 : decode cX11_alike 52 = .ok (.istore 5, 2) := by decide +kernel
theorem dX11_alike_54 : decode cX11_alike 54 = .ok (.aload_n 0, 1) := by decide +kernel
theorem dX11_alike_55 : decode cX11_alike 55 = .ok (.getfield 77, 3) := by decide +kernel
theorem dX11_alike_58 : decode cX11_alike 58 = .ok (.iload 4, 2) := by decide +kernel
theorem dX11_alike_60 : decode cX11_alike 60 = .ok (.i2l, 1) := by decide +kernel
theorem dX11_alike_61 : decode cX11_alike 61 = .ok (.invokevirtual 192, 3) := by decide +kernel
theorem dX11_alike_64 : decode cX11_alike 64 = .ok (.aload_n 0, 1) := by decide +kernel
theorem dX11_alike_65 : decode cX11_alike 65 = .ok (.getfield 77, 3) := by decide +kernel
theorem dX11_alike_68 : decode cX11_alike 68 = .ok (.iload 5, 2) := by decide +kernel
theorem dX11_alike_70 : decode cX11_alike 70 = .ok (.i2l, 1) := by decide +kernel
theorem dX11_alike_71 : decode cX11_alike 71 = .ok (.invokevirtual 223, 3) := by decide +kernel
theorem dX11_alike_74 : decode cX11_alike 74 = .ok (.iload 5, 2) := by decide +kernel
theorem dX11_alike_76 : decode cX11_alike 76 = .ok (.iload 4, 2) := by decide +kernel
theorem dX11_alike_78 : decode cX11_alike 78 = .ok (.isub, 1) := by decide +kernel
theorem dX11_alike_79 : decode cX11_alike 79 = .ok (.iconst 1, 1) := by decide +kernel
theorem dX11_alike_80 : decode cX11_alike 80 = .ok (.iadd, 1) := by decide +kernel
theorem dX11_alike_81 : decode cX11_alike 81 = .ok (.ireturn, 1) := by decide +kernel
theorem dX11_surely_0 : decode cX11_surely 0 = .ok (.iload_n 1, 1) := by decide +kernel
theorem dX11_surely_1 : decode cX11_surely 1 = .ok (.invokestatic 203, 3) := by decide +kernel
theorem dX11_surely_4 : decode cX11_surely 4 = .ok (.ifCond .ne 5, 3) := by decide +kernel
theorem dX11_surely_7 : decode cX11_surely 7 = .ok (.iconst (-1), 1) := by decide +kernel
theorem dX11_surely_8 : decode cX11_surely 8 = .ok (.ireturn, 1) := by decide +kernel
theorem dX11_surely_9 : decode cX11_surely 9 = .ok (.aload_n 0, 1) := by decide +kernel
theorem dX11_surely_10 : decode cX11_surely 10 = .ok (.iload_n 1, 1) := by decide +kernel
theorem dX11_surely_11 : decode cX11_surely 11 = .ok (.invokevirtual 210, 3) := by decide +kernel
theorem dX11_surely_14 : decode cX11_surely 14 = .ok (.astore_n 2, 1) := by decide +kernel
theorem dX11_surely_15 : decode cX11_surely 15 = .ok (.aload_n 2, 1) := by decide +kernel
theorem dX11_surely_16 : decode cX11_surely 16 = .ok (.invokevirtual 214, 3) := by decide +kernel
theorem dX11_surely_19 : decode cX11_surely 19 = .ok (.ifCond .ne 6, 3) := by decide +kernel
theorem dX11_surely_22 : decode cX11_surely 22 = .ok (.bipush (-2), 2) := by decide +kernel
theorem dX11_surely_24 : decode cX11_surely 24 = .ok (.ireturn, 1) := by decide +kernel
theorem dX11_surely_25 : decode cX11_surely 25 = .ok (.aload_n 2, 1) := by decide +kernel
theorem dX11_surely_26 : decode cX11_surely 26 = .ok (.aload_n 2, 1) := by decide +kernel
theorem dX11_surely_27 : decode cX11_surely 27 = .ok (.aload_n 2, 1) := by decide +kernel
theorem dX11_surely_28 : decode cX11_surely 28 = .ok (.iconst 1, 1) := by decide +kernel
theorem dX11_surely_29 : decode cX11_surely 29 = .ok (.invokevirtual 220, 3) := by decide +kernel
theorem dX11_surely_32 : decode cX11_surely 32 = .ok (.invokevirtual 226, 3) := by decide +kernel
theorem dX11_surely_35 : decode cX11_surely 35 = .ok (.invokevirtual 243, 3) := by decide +kernel
theorem dX11_surely_38 : decode cX11_surely 38 = .ok (.istore_n 3, 1) := by decide +kernel
theorem dX11_surely_39 : decode cX11_surely 39 = .ok (.aload_n 0, 1) := by decide +kernel
theorem dX11_surely_40 : decode cX11_surely 40 = .ok (.getfield 77, 3) := by decide +kernel
theorem dX11_surely_43 : decode cX11_surely 43 = .ok (.iload_n 3, 1) := by decide +kernel
theorem dX11_surely_44 : decode cX11_surely 44 = .ok (.invokestatic 246, 3) := by decide +kernel
theorem dX11_surely_47 : decode cX11_surely 47 = .ok (.i2l, 1) := by decide +kernel
theorem dX11_surely_48 : decode cX11_surely 48 = .ok (.invokevirtual 192, 3) := by decide +kernel
theorem dX11_surely_51 : decode cX11_surely 51 = .ok (.iload_n 3, 1) := by decide +kernel
theorem dX11_surely_52 : decode cX11_surely 52 = .ok (.ireturn, 1) := by decide +kernel
theorem dX11_having_0 : decode cX11_having 0 = .ok (.iload_n 1, 1) := by decide +kernel
theorem dX11_having_1 : decode cX11_having 1 = .ok (.invokestatic 203, 3) := by decide +kernel
theorem dX11_having_4 : decode cX11_having 4 = .ok (.ifCond .eq 34, 3) := by decide +kernel
theorem dX11_having_7 : decode cX11_having 7 = .ok (.iload_n 2, 1) := by decide +kernel
theorem dX11_having_8 : decode cX11_having 8 = .ok (.ifCond .lt 30, 3) := by decide +kernel
theorem dX11_having_11 : decode cX11_having 11 = .ok (.iload_n 2, 1) := by decide +kernel
theorem dX11_having_12 : decode cX11_having 12 = .ok (.bipush 8, 2) := by decide +kernel
theorem dX11_having_14 : decode cX11_having 14 = .ok (.if_icmp .ge 24, 3) := by decide +kernel
theorem dX11_having_17 : decode cX11_having 17 = .ok (.iload_n 3, 1) := by decide +kernel
theorem dX11_having_18 : decode cX11_having 18 = .ok (.ifCond .lt 20, 3) := by decide +kernel
theorem dX11_having_21 : decode cX11_having 21 = .ok (.iload_n 3, 1) := by decide +kernel
theorem dX11_having_22 : decode cX11_having 22 = .ok (.bipush 12, 2) := by decide +kernel
theorem dX11_having_24 : decode cX11_having 24 = .ok (.if_icmp .ge 14, 3) := by decide +kernel
theorem dX11_having_27 : decode cX11_having 27 = .ok (.iload 4, 2) := by decide +kernel
theorem dX11_having_29 : decode cX11_having 29 = .ok (.ifCond .lt 9, 3) := by decide +kernel
theorem dX11_having_32 : decode cX11_having 32 = .ok (.iload 4, 2) := by decide +kernel
theorem dX11_having_34 : decode cX11_having 34 = .ok (.iconst 1, 1) := by decide +kernel
theorem dX11_having_35 : decode cX11_having 35 = .ok (.if_icmp .le 5, 3) := by decide +kernel
theorem dX11_having_38 : decode cX11_having 38 = .ok (.iconst (-1), 1) := by decide +kernel
theorem dX11_having_39 : decode cX11_having 39 = .ok (.ireturn, 1) := by decide +kernel
theorem dX11_having_40 : decode cX11_having 40 = .ok (.aload_n 0, 1) := by decide +kernel
theorem dX11_having_41 : decode cX11_having 41 = .ok (.iload_n 1, 1) := by decide +kernel
theorem dX11_having_42 : decode cX11_having 42 = .ok (.invokevirtual 210, 3) := by decide +kernel
theorem dX11_having_45 : decode cX11_having 45 = .ok (.astore 5, 2) := by decide +kernel
theorem dX11_having_47 : decode cX11_having 47 = .ok (.iconst 0, 1) := by decide +kernel
theorem dX11_having_48 : decode cX11_having 48 = .ok (.istore 6, 2) := by decide +kernel
theorem dX11_having_50 : decode cX11_having 50 = .ok (.iconst 0, 1) := by decide +kernel
theorem dX11_having_51 : decode cX11_having 51 = .ok (.istore 7, 2) := by decide +kernel
theorem dX11_having_53 : decode cX11_having 53 = .ok (.iconst 1, 1) := by decide +kernel
theorem dX11_having_54 : decode cX11_having 54 = .ok (.istore 8, 2) := by decide +kernel
theorem dX11_having_56 : decode cX11_having 56 = .ok (.iload 8, 2) := by decide +kernel
theorem dX11_having_58 : decode cX11_having 58 = .ok (.aload 5, 2) := by decide +kernel
theorem dX11_having_60 : decode cX11_having 60 = .ok (.invokevirtual 214, 3) := by decide +kernel
theorem dX11_having_63 : decode cX11_having 63 = .ok (.if_icmp .gt 60, 3) := by decide +kernel
theorem dX11_having_66 : decode cX11_having 66 = .ok (.aload 5, 2) := by decide +kernel
theorem dX11_having_68 : decode cX11_having 68 = .ok (.iload 8, 2) := by decide +kernel
theorem dX11_having_70 : decode cX11_having 70 = .ok (.invokevirtual 251, 3) := by decide +kernel
theorem dX11_having_73 : decode cX11_having 73 = .ok (.iload_n 2, 1) := by decide +kernel
theorem dX11_having_74 : decode cX11_having 74 = .ok (.invokestatic 255, 3) := by decide +kernel
theorem dX11_having_77 : decode cX11_having 77 = .ok (.iload_n 3, 1) := by decide +kernel
theorem dX11_having_78 : decode cX11_having 78 = .ok (.if_icmp .ne 7, 3) := by decide +kernel
theorem dX11_having_81 : decode cX11_having 81 = .ok (.iconst 1, 1) := by decide +kernel
theorem dX11_having_82 : decode cX11_having 82 = .ok (.goto 4, 3) := by decide +kernel
theorem dX11_having_85 : decode cX11_having 85 = .ok (.iconst 0, 1) := by decide +kernel
theorem dX11_having_86 : decode cX11_having 86 = .ok (.iload 4, 2) := by decide +kernel
theorem dX11_having_88 : decode cX11_having 88 = .ok (.iconst 1, 1) := by decide +kernel
theorem dX11_having_89 : decode cX11_having 89 = .ok (.if_icmp .ne 7, 3) := by decide +kernel
theorem dX11_having_92 : decode cX11_having 92 = .ok (.iconst 1, 1) := by decide +kernel
theorem dX11_having_93 : decode cX11_having 93 = .ok (.goto 4, 3) := by decide +kernel
theorem dX11_having_96 : decode cX11_having 96 = .ok (.iconst 0, 1) := by decide +kernel
theorem dX11_having_97 : decode cX11_having 97 = .ok (.if_icmp .ne 20, 3) := by decide +kernel
theorem dX11_having_100 : decode cX11_having 100 = .ok (.iload 7, 2) := by decide +kernel
theorem dX11_having_102 : decode cX11_having 102 = .ok (.ifCond .ne 8, 3) := by decide +kernel
theorem dX11_having_105 : decode cX11_having 105 = .ok (.iload 8, 2) := by decide +kernel
theorem dX11_having_107 : decode cX11_having 107 = .ok (.goto 5, 3) := by decide +kernel
theorem dX11_having_110 : decode cX11_having 110 = .ok (.iload 6, 2) := by decide +kernel
theorem dX11_having_112 : decode cX11_having 112 = .ok (.istore 6, 2) := by decide +kernel
theorem dX11_having_114 : decode cX11_having 114 = .ok (.iinc 7 1, 3) := by decide +kernel
theorem dX11_having_117 : decode cX11_having 117 = .ok (.iinc 8 1, 3) := by decide +kernel
theorem dX11_having_120 : decode cX11_having 120 = .ok (.goto (-64), 3) := by decide +kernel
theorem dX11_having_123 : decode cX11_having 123 = .ok (.aload_n 0, 1) := by decide +kernel
theorem dX11_having_124 : decode cX11_having 124 = .ok (.getfield 77, 3) := by decide +kernel
theorem dX11_having_127 : decode cX11_having 127 = .ok (.invokevirtual 219, 3) := by decide +kernel
theorem dX11_having_130 : decode cX11_having 130 = .ok (.iload 7, 2) := by decide +kernel
theorem dX11_having_132 : decode cX11_having 132 = .ok (.ifCond .le 28, 3) := by decide +kernel
theorem dX11_having_135 : decode cX11_having 135 = .ok (.aload_n 0, 1) := by decide +kernel
theorem dX11_having_136 : decode cX11_having 136 = .ok (.getfield 77, 3) := by decide +kernel
theorem dX11_having_139 : decode cX11_having 139 = .ok (.iload 6, 2) := by decide +kernel
theorem dX11_having_141 : decode cX11_having 141 = .ok (.i2l, 1) := by decide +kernel
theorem dX11_having_142 : decode cX11_having 142 = .ok (.invokevirtual 223, 3) := by decide +kernel
theorem dX11_having_145 : decode cX11_having 145 = .ok (.aload_n 0, 1) := by decide +kernel
theorem dX11_having_146 : decode cX11_having 146 = .ok (.getfield 77, 3) := by decide +kernel
theorem dX11_having_149 : decode cX11_having 149 = .ok (.aload 5, 2) := by decide +kernel
theorem dX11_having_151 : decode cX11_having 151 = .ok (.iload 6, 2) := by decide +kernel
theorem dX11_having_153 : decode cX11_having 153 = .ok (.invokevirtual 220, 3) := by decide +kernel
theorem dX11_having_156 : decode cX11_having 156 = .ok (.i2l, 1) := by decide +kernel
theorem dX11_having_157 : decode cX11_having 157 = .ok (.invokevirtual 223, 3) := by decide +kernel
theorem dX11_having_160 : decode cX11_having 160 = .ok (.iload 7, 2) := by decide +kernel
theorem dX11_having_162 : decode cX11_having 162 = .ok (.ireturn, 1) := by decide +kernel
theorem dX11_differ_0 : decode cX11_differ 0 = .ok (.iload_n 1, 1) := by decide +kernel
theorem dX11_differ_1 : decode cX11_differ 1 = .ok (.invokestatic 203, 3) := by decide +kernel
theorem dX11_differ_4 : decode cX11_differ 4 = .ok (.ifCond .eq 23, 3) := by decide +kernel
theorem dX11_differ_7 : decode cX11_differ 7 = .ok (.iload_n 2, 1) := by decide +kernel
theorem dX11_differ_8 : decode cX11_differ 8 = .ok (.sipush 400, 3) := by decide +kernel
theorem dX11_differ_11 : decode cX11_differ 11 = .ok (.invokestatic 206, 3) := by decide +kernel
theorem dX11_differ_14 : decode cX11_differ 14 = .ok (.ifCond .eq 13, 3) := by decide +kernel
theorem dX11_differ_17 : decode cX11_differ 17 = .ok (.iload_n 3, 1) := by decide +kernel
theorem dX11_differ_18 : decode cX11_differ 18 = .ok (.sipush 400, 3) := by decide +kernel
theorem dX11_differ_21 : decode cX11_differ 21 = .ok (.invokestatic 206, 3) := by decide +kernel
theorem dX11_differ_24 : decode cX11_differ 24 = .ok (.ifCond .ne 5, 3) := by decide +kernel
theorem dX11_differ_27 : decode cX11_differ 27 = .ok (.iconst (-1), 1) := by decide +kernel
theorem dX11_differ_28 : decode cX11_differ 28 = .ok (.ireturn, 1) := by decide +kernel
theorem dX11_differ_29 : decode cX11_differ 29 = .ok (.aload_n 0, 1) := by decide +kernel
theorem dX11_differ_30 : decode cX11_differ 30 = .ok (.iload_n 1, 1) := by decide +kernel
theorem dX11_differ_31 : decode cX11_differ 31 = .ok (.invokevirtual 210, 3) := by decide +kernel
theorem dX11_differ_34 : decode cX11_differ 34 = .ok (.astore 4, 2) := by decide +kernel
theorem dX11_differ_36 : decode cX11_differ 36 = .ok (.iload_n 2, 1) := by decide +kernel
theorem dX11_differ_37 : decode cX11_differ 37 = .ok (.aload 4, 2) := by decide +kernel
theorem dX11_differ_39 : decode cX11_differ 39 = .ok (.invokevirtual 214, 3) := by decide +kernel
theorem dX11_differ_42 : decode cX11_differ 42 = .ok (.if_icmp .gt 12, 3) := by decide +kernel
theorem dX11_differ_45 : decode cX11_differ 45 = .ok (.iload_n 3, 1) := by decide +kernel
theorem dX11_differ_46 : decode cX11_differ 46 = .ok (.aload 4, 2) := by decide +kernel
theorem dX11_differ_48 : decode cX11_differ 48 = .ok (.invokevirtual 214, 3) := by decide +kernel
theorem dX11_differ_51 : decode cX11_differ 51 = .ok (.if_icmp .le 6, 3) := by decide +kernel
theorem dX11_differ_54 : decode cX11_differ 54 = .ok (.bipush (-2), 2) := by decide +kernel
theorem dX11_differ_56 : decode cX11_differ 56 = .ok (.ireturn, 1) := by decide +kernel
theorem dX11_differ_57 : decode cX11_differ 57 = .ok (.aload 4, 2) := by decide +kernel
theorem dX11_differ_59 : decode cX11_differ 59 = .ok (.iload_n 2, 1) := by decide +kernel
theorem dX11_differ_60 : decode cX11_differ 60 = .ok (.invokevirtual 251, 3) := by decide +kernel
theorem dX11_differ_63 : decode cX11_differ 63 = .ok (.aload 4, 2) := by decide +kernel
theorem dX11_differ_65 : decode cX11_differ 65 = .ok (.iload_n 3, 1) := by decide +kernel
theorem dX11_differ_66 : decode cX11_differ 66 = .ok (.invokevirtual 251, 3) := by decide +kernel
theorem dX11_differ_69 : decode cX11_differ 69 = .ok (.invokestatic 258, 3) := by decide +kernel
theorem dX11_differ_72 : decode cX11_differ 72 = .ok (.istore 5, 2) := by decide +kernel
theorem dX11_differ_74 : decode cX11_differ 74 = .ok (.aload_n 0, 1) := by decide +kernel
theorem dX11_differ_75 : decode cX11_differ 75 = .ok (.getfield 77, 3) := by decide +kernel
theorem dX11_differ_78 : decode cX11_differ 78 = .ok (.invokevirtual 219, 3) := by decide +kernel
theorem dX11_differ_81 : decode cX11_differ 81 = .ok (.iload 5, 2) := by decide +kernel
theorem dX11_differ_83 : decode cX11_differ 83 = .ok (.ifCond .eq 16, 3) := by decide +kernel
theorem dX11_differ_86 : decode cX11_differ 86 = .ok (.aload_n 0, 1) := by decide +kernel
theorem dX11_differ_87 : decode cX11_differ 87 = .ok (.getfield 77, 3) := by decide +kernel
theorem dX11_differ_90 : decode cX11_differ 90 = .ok (.iload 5, 2) := by decide +kernel
theorem dX11_differ_92 : decode cX11_differ 92 = .ok (.invokestatic 262, 3) := by decide +kernel
theorem dX11_differ_95 : decode cX11_differ 95 = .ok (.i2l, 1) := by decide +kernel
theorem dX11_differ_96 : decode cX11_differ 96 = .ok (.invokevirtual 223, 3) := by decide +kernel
theorem dX11_differ_99 : decode cX11_differ 99 = .ok (.iload 5, 2) := by decide +kernel
theorem dX11_differ_101 : decode cX11_differ 101 = .ok (.invokestatic 246, 3) := by decide +kernel
theorem dX11_differ_104 : decode cX11_differ 104 = .ok (.ireturn, 1) := by decide +kernel
theorem dX11_gap_0 : decode cX11_gap 0 = .ok (.iload_n 1, 1) := by decide +kernel
theorem dX11_gap_1 : decode cX11_gap 1 = .ok (.invokestatic 203, 3) := by decide +kernel
theorem dX11_gap_4 : decode cX11_gap 4 = .ok (.ifCond .eq 13, 3) := by decide +kernel
theorem dX11_gap_7 : decode cX11_gap 7 = .ok (.iload_n 2, 1) := by decide +kernel
theorem dX11_gap_8 : decode cX11_gap 8 = .ok (.sipush 399, 3) := by decide +kernel
theorem dX11_gap_11 : decode cX11_gap 11 = .ok (.invokestatic 206, 3) := by decide +kernel
theorem dX11_gap_14 : decode cX11_gap 14 = .ok (.ifCond .ne 5, 3) := by decide +kernel
theorem dX11_gap_17 : decode cX11_gap 17 = .ok (.iconst (-1), 1) := by decide +kernel
theorem dX11_gap_18 : decode cX11_gap 18 = .ok (.ireturn, 1) := by decide +kernel
theorem dX11_gap_19 : decode cX11_gap 19 = .ok (.aload_n 0, 1) := by decide +kernel
theorem dX11_gap_20 : decode cX11_gap 20 = .ok (.iload_n 1, 1) := by decide +kernel
theorem dX11_gap_21 : decode cX11_gap 21 = .ok (.invokevirtual 210, 3) := by decide +kernel
theorem dX11_gap_24 : decode cX11_gap 24 = .ok (.astore_n 3, 1) := by decide +kernel
theorem dX11_gap_25 : decode cX11_gap 25 = .ok (.iload_n 2, 1) := by decide +kernel
theorem dX11_gap_26 : decode cX11_gap 26 = .ok (.iconst 1, 1) := by decide +kernel
theorem dX11_gap_27 : decode cX11_gap 27 = .ok (.iadd, 1) := by decide +kernel
theorem dX11_gap_28 : decode cX11_gap 28 = .ok (.aload_n 3, 1) := by decide +kernel
theorem dX11_gap_29 : decode cX11_gap 29 = .ok (.invokevirtual 214, 3) := by decide +kernel
theorem dX11_gap_32 : decode cX11_gap 32 = .ok (.if_icmp .le 6, 3) := by decide +kernel
theorem dX11_gap_35 : decode cX11_gap 35 = .ok (.bipush (-2), 2) := by decide +kernel
theorem dX11_gap_37 : decode cX11_gap 37 = .ok (.ireturn, 1) := by decide +kernel
theorem dX11_gap_38 : decode cX11_gap 38 = .ok (.aload_n 0, 1) := by decide +kernel
theorem dX11_gap_39 : decode cX11_gap 39 = .ok (.getfield 77, 3) := by decide +kernel
theorem dX11_gap_42 : decode cX11_gap 42 = .ok (.aload_n 3, 1) := by decide +kernel
theorem dX11_gap_43 : decode cX11_gap 43 = .ok (.iload_n 2, 1) := by decide +kernel
theorem dX11_gap_44 : decode cX11_gap 44 = .ok (.iconst 1, 1) := by decide +kernel
theorem dX11_gap_45 : decode cX11_gap 45 = .ok (.iadd, 1) := by decide +kernel
theorem dX11_gap_46 : decode cX11_gap 46 = .ok (.invokevirtual 220, 3) := by decide +kernel
theorem dX11_gap_49 : decode cX11_gap 49 = .ok (.i2l, 1) := by decide +kernel
theorem dX11_gap_50 : decode cX11_gap 50 = .ok (.aload_n 3, 1) := by decide +kernel
theorem dX11_gap_51 : decode cX11_gap 51 = .ok (.iload_n 2, 1) := by decide +kernel
theorem dX11_gap_52 : decode cX11_gap 52 = .ok (.invokevirtual 220, 3) := by decide +kernel
theorem dX11_gap_55 : decode cX11_gap 55 = .ok (.i2l, 1) := by decide +kernel
theorem dX11_gap_56 : decode cX11_gap 56 = .ok (.lsub, 1) := by decide +kernel
theorem dX11_gap_57 : decode cX11_gap 57 = .ok (.invokevirtual 192, 3) := by decide +kernel
theorem dX11_gap_60 : decode cX11_gap 60 = .ok (.iconst 0, 1) := by decide +kernel
theorem dX11_gap_61 : decode cX11_gap 61 = .ok (.ireturn, 1) := by decide +kernel
theorem dX11_opens_0 : decode cX11_opens 0 = .ok (.iload_n 1, 1) := by decide +kernel
theorem dX11_opens_1 : decode cX11_opens 1 = .ok (.ifCond .lt 15, 3) := by decide +kernel
theorem dX11_opens_4 : decode cX11_opens 4 = .ok (.iload_n 1, 1) := by decide +kernel
theorem dX11_opens_5 : decode cX11_opens 5 = .ok (.iconst 3, 1) := by decide +kernel
theorem dX11_opens_6 : decode cX11_opens 6 = .ok (.if_icmp .ge 10, 3) := by decide +kernel
theorem dX11_opens_9 : decode cX11_opens 9 = .ok (.iload_n 2, 1) := by decide +kernel
theorem dX11_opens_10 : decode cX11_opens 10 = .ok (.invokestatic 203, 3) := by decide +kernel
theorem dX11_opens_13 : decode cX11_opens 13 = .ok (.ifCond .ne 5, 3) := by decide +kernel
theorem dX11_opens_16 : decode cX11_opens 16 = .ok (.iconst (-1), 1) := by decide +kernel
theorem dX11_opens_17 : decode cX11_opens 17 = .ok (.ireturn, 1) := by decide +kernel
theorem dX11_opens_18 : decode cX11_opens 18 = .ok (.aload_n 0, 1) := by decide +kernel
theorem dX11_opens_19 : decode cX11_opens 19 = .ok (.getfield 63, 3) := by decide +kernel
theorem dX11_opens_22 : decode cX11_opens 22 = .ok (.iload_n 1, 1) := by decide +kernel
theorem dX11_opens_23 : decode cX11_opens 23 = .ok (.aaload, 1) := by decide +kernel
theorem dX11_opens_24 : decode cX11_opens 24 = .ok (.iload_n 2, 1) := by decide +kernel
theorem dX11_opens_25 : decode cX11_opens 25 = .ok (.invokevirtual 265, 3) := by decide +kernel
theorem dX11_opens_28 : decode cX11_opens 28 = .ok (.aload_n 0, 1) := by decide +kernel
theorem dX11_opens_29 : decode cX11_opens 29 = .ok (.iload_n 2, 1) := by decide +kernel
theorem dX11_opens_30 : decode cX11_opens 30 = .ok (.invokevirtual 210, 3) := by decide +kernel
theorem dX11_opens_33 : decode cX11_opens 33 = .ok (.invokevirtual 214, 3) := by decide +kernel
theorem dX11_opens_36 : decode cX11_opens 36 = .ok (.ireturn, 1) := by decide +kernel
theorem dX11_goes_0 : decode cX11_goes 0 = .ok (.iload_n 1, 1) := by decide +kernel
theorem dX11_goes_1 : decode cX11_goes 1 = .ok (.ifCond .lt 8, 3) := by decide +kernel
theorem dX11_goes_4 : decode cX11_goes 4 = .ok (.iload_n 1, 1) := by decide +kernel
theorem dX11_goes_5 : decode cX11_goes 5 = .ok (.iconst 3, 1) := by decide +kernel
theorem dX11_goes_6 : decode cX11_goes 6 = .ok (.if_icmp .lt 5, 3) := by decide +kernel
theorem dX11_goes_9 : decode cX11_goes 9 = .ok (.iconst (-1), 1) := by decide +kernel
theorem dX11_goes_10 : decode cX11_goes 10 = .ok (.ireturn, 1) := by decide +kernel
theorem dX11_goes_11 : decode cX11_goes 11 = .ok (.aload_n 0, 1) := by decide +kernel
theorem dX11_goes_12 : decode cX11_goes 12 = .ok (.getfield 63, 3) := by decide +kernel
theorem dX11_goes_15 : decode cX11_goes 15 = .ok (.iload_n 1, 1) := by decide +kernel
theorem dX11_goes_16 : decode cX11_goes 16 = .ok (.aaload, 1) := by decide +kernel
theorem dX11_goes_17 : decode cX11_goes 17 = .ok (.astore_n 2, 1) := by decide +kernel
theorem dX11_goes_18 : decode cX11_goes 18 = .ok (.aload_n 2, 1) := by decide +kernel
theorem dX11_goes_19 : decode cX11_goes 19 = .ok (.invokevirtual 268, 3) := by decide +kernel
theorem dX11_goes_22 : decode cX11_goes 22 = .ok (.ifCond .ne 8, 3) := by decide +kernel
theorem dX11_goes_25 : decode cX11_goes 25 = .ok (.aload_n 2, 1) := by decide +kernel
theorem dX11_goes_26 : decode cX11_goes 26 = .ok (.invokevirtual 271, 3) := by decide +kernel
theorem dX11_goes_29 : decode cX11_goes 29 = .ok (.ireturn, 1) := by decide +kernel
theorem dX11_goes_30 : decode cX11_goes 30 = .ok (.aload_n 0, 1) := by decide +kernel
theorem dX11_goes_31 : decode cX11_goes 31 = .ok (.aload_n 2, 1) := by decide +kernel
theorem dX11_goes_32 : decode cX11_goes 32 = .ok (.invokevirtual 274, 3) := by decide +kernel
theorem dX11_goes_35 : decode cX11_goes 35 = .ok (.invokevirtual 210, 3) := by decide +kernel
theorem dX11_goes_38 : decode cX11_goes 38 = .ok (.astore_n 3, 1) := by decide +kernel
theorem dX11_goes_39 : decode cX11_goes 39 = .ok (.aload_n 2, 1) := by decide +kernel
theorem dX11_goes_40 : decode cX11_goes 40 = .ok (.invokevirtual 277, 3) := by decide +kernel
theorem dX11_goes_43 : decode cX11_goes 43 = .ok (.aload_n 3, 1) := by decide +kernel
theorem dX11_goes_44 : decode cX11_goes 44 = .ok (.invokevirtual 214, 3) := by decide +kernel
theorem dX11_goes_47 : decode cX11_goes 47 = .ok (.if_icmp .lt 6, 3) := by decide +kernel
theorem dX11_goes_50 : decode cX11_goes 50 = .ok (.bipush (-2), 2) := by decide +kernel
theorem dX11_goes_52 : decode cX11_goes 52 = .ok (.ireturn, 1) := by decide +kernel
theorem dX11_goes_53 : decode cX11_goes 53 = .ok (.aload_n 2, 1) := by decide +kernel
theorem dX11_goes_54 : decode cX11_goes 54 = .ok (.iconst 1, 1) := by decide +kernel
theorem dX11_goes_55 : decode cX11_goes 55 = .ok (.aload_n 3, 1) := by decide +kernel
theorem dX11_goes_56 : decode cX11_goes 56 = .ok (.invokevirtual 214, 3) := by decide +kernel
theorem dX11_goes_59 : decode cX11_goes 59 = .ok (.invokevirtual 280, 3) := by decide +kernel
theorem dX11_goes_62 : decode cX11_goes 62 = .ok (.aload_n 0, 1) := by decide +kernel
theorem dX11_goes_63 : decode cX11_goes 63 = .ok (.aload_n 3, 1) := by decide +kernel
theorem dX11_goes_64 : decode cX11_goes 64 = .ok (.aload_n 2, 1) := by decide +kernel
theorem dX11_goes_65 : decode cX11_goes 65 = .ok (.invokevirtual 277, 3) := by decide +kernel
theorem dX11_goes_68 : decode cX11_goes 68 = .ok (.invokevirtual 215, 3) := by decide +kernel
theorem dX11_goes_71 : decode cX11_goes 71 = .ok (.ireturn, 1) := by decide +kernel
theorem dX11_skips_0 : decode cX11_skips 0 = .ok (.iload_n 1, 1) := by decide +kernel
theorem dX11_skips_1 : decode cX11_skips 1 = .ok (.ifCond .lt 19, 3) := by decide +kernel
theorem dX11_skips_4 : decode cX11_skips 4 = .ok (.iload_n 1, 1) := by decide +kernel
theorem dX11_skips_5 : decode cX11_skips 5 = .ok (.iconst 3, 1) := by decide +kernel
theorem dX11_skips_6 : decode cX11_skips 6 = .ok (.if_icmp .ge 14, 3) := by decide +kernel
theorem dX11_skips_9 : decode cX11_skips 9 = .ok (.iload_n 2, 1) := by decide +kernel
theorem dX11_skips_10 : decode cX11_skips 10 = .ok (.ifCond .lt 10, 3) := by decide +kernel
theorem dX11_skips_13 : decode cX11_skips 13 = .ok (.iload_n 2, 1) := by decide +kernel
theorem dX11_skips_14 : decode cX11_skips 14 = .ok (.sipush 400, 3) := by decide +kernel
theorem dX11_skips_17 : decode cX11_skips 17 = .ok (.if_icmp .le 5, 3) := by decide +kernel
theorem dX11_skips_20 : decode cX11_skips 20 = .ok (.iconst (-1), 1) := by decide +kernel
theorem dX11_skips_21 : decode cX11_skips 21 = .ok (.ireturn, 1) := by decide +kernel
theorem dX11_skips_22 : decode cX11_skips 22 = .ok (.aload_n 0, 1) := by decide +kernel
theorem dX11_skips_23 : decode cX11_skips 23 = .ok (.getfield 63, 3) := by decide +kernel
theorem dX11_skips_26 : decode cX11_skips 26 = .ok (.iload_n 1, 1) := by decide +kernel
theorem dX11_skips_27 : decode cX11_skips 27 = .ok (.aaload, 1) := by decide +kernel
theorem dX11_skips_28 : decode cX11_skips 28 = .ok (.astore_n 3, 1) := by decide +kernel
theorem dX11_skips_29 : decode cX11_skips 29 = .ok (.aload_n 3, 1) := by decide +kernel
theorem dX11_skips_30 : decode cX11_skips 30 = .ok (.invokevirtual 268, 3) := by decide +kernel
theorem dX11_skips_33 : decode cX11_skips 33 = .ok (.ifCond .ne 8, 3) := by decide +kernel
theorem dX11_skips_36 : decode cX11_skips 36 = .ok (.aload_n 3, 1) := by decide +kernel
theorem dX11_skips_37 : decode cX11_skips 37 = .ok (.invokevirtual 271, 3) := by decide +kernel
theorem dX11_skips_40 : decode cX11_skips 40 = .ok (.ireturn, 1) := by decide +kernel
theorem dX11_skips_41 : decode cX11_skips 41 = .ok (.aload_n 0, 1) := by decide +kernel
theorem dX11_skips_42 : decode cX11_skips 42 = .ok (.aload_n 3, 1) := by decide +kernel
theorem dX11_skips_43 : decode cX11_skips 43 = .ok (.invokevirtual 274, 3) := by decide +kernel
theorem dX11_skips_46 : decode cX11_skips 46 = .ok (.invokevirtual 210, 3) := by decide +kernel
theorem dX11_skips_49 : decode cX11_skips 49 = .ok (.invokevirtual 214, 3) := by decide +kernel
theorem dX11_skips_52 : decode cX11_skips 52 = .ok (.istore 4, 2) := by decide +kernel
theorem dX11_skips_54 : decode cX11_skips 54 = .ok (.aload_n 3, 1) := by decide +kernel
theorem dX11_skips_55 : decode cX11_skips 55 = .ok (.iload_n 2, 1) := by decide +kernel
