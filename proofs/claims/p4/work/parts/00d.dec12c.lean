theorem dX12_day_114 : decode cX12_day 114 = .ok (.iadd, 1) := by decide +kernel
theorem dX12_day_115 : decode cX12_day 115 = .ok (.iaload, 1) := by decide +kernel
theorem dX12_day_116 : decode cX12_day 116 = .ok (.invokevirtual 265, 3) := by decide +kernel
theorem dX12_day_119 : decode cX12_day 119 = .ok (.ifCond .eq 9, 3) := by decide +kernel
theorem dX12_day_122 : decode cX12_day 122 = .ok (.iinc 2 1, 3) := by decide +kernel
theorem dX12_day_125 : decode cX12_day 125 = .ok (.goto (-53), 3) := by decide +kernel
theorem dX12_day_128 : decode cX12_day 128 = .ok (.iload_n 2, 1) := by decide +kernel
theorem dX12_day_129 : decode cX12_day 129 = .ok (.ifCond .le 11, 3) := by decide +kernel
theorem dX12_day_132 : decode cX12_day 132 = .ok (.aload_n 0, 1) := by decide +kernel
theorem dX12_day_133 : decode cX12_day 133 = .ok (.aload_n 0, 1) := by decide +kernel
theorem dX12_day_134 : decode cX12_day 134 = .ok (.getfield 36, 3) := by decide +kernel
theorem dX12_day_137 : decode cX12_day 137 = .ok (.invokevirtual 165, 3) := by decide +kernel
theorem dX12_day_140 : decode cX12_day 140 = .ok (.aload_n 0, 1) := by decide +kernel
theorem dX12_day_141 : decode cX12_day 141 = .ok (.iconst 0, 1) := by decide +kernel
theorem dX12_day_142 : decode cX12_day 142 = .ok (.putfield 98, 3) := by decide +kernel
theorem dX12_day_145 : decode cX12_day 145 = .ok (.aload_n 0, 1) := by decide +kernel
theorem dX12_day_146 : decode cX12_day 146 = .ok (.iload_n 2, 1) := by decide +kernel
theorem dX12_day_147 : decode cX12_day 147 = .ok (.iload_n 1, 1) := by decide +kernel
theorem dX12_day_148 : decode cX12_day 148 = .ok (.if_icmp .ge 7, 3) := by decide +kernel
theorem dX12_day_151 : decode cX12_day 151 = .ok (.lconst 1, 1) := by decide +kernel
theorem dX12_day_152 : decode cX12_day 152 = .ok (.goto 4, 3) := by decide +kernel
theorem dX12_day_155 : decode cX12_day 155 = .ok (.lconst 0, 1) := by decide +kernel
theorem dX12_day_156 : decode cX12_day 156 = .ok (.invokevirtual 269, 3) := by decide +kernel
theorem dX12_day_159 : decode cX12_day 159 = .ok (.iload_n 2, 1) := by decide +kernel
theorem dX12_day_160 : decode cX12_day 160 = .ok (.ireturn, 1) := by decide +kernel
theorem dX12_twoDigits_0 : decode cX12_twoDigits 0 = .ok (.aload_n 0, 1) := by decide +kernel
theorem dX12_twoDigits_1 : decode cX12_twoDigits 1 = .ok (.bipush 48, 2) := by decide +kernel
theorem dX12_twoDigits_3 : decode cX12_twoDigits 3 = .ok (.bipush 10, 2) := by decide +kernel
theorem dX12_twoDigits_5 : decode cX12_twoDigits 5 = .ok (.invokevirtual 147, 3) := by decide +kernel
theorem dX12_twoDigits_8 : decode cX12_twoDigits 8 = .ok (.istore_n 1, 1) := by decide +kernel
theorem dX12_twoDigits_9 : decode cX12_twoDigits 9 = .ok (.bipush 10, 2) := by decide +kernel
theorem dX12_twoDigits_11 : decode cX12_twoDigits 11 = .ok (.iload_n 1, 1) := by decide +kernel
theorem dX12_twoDigits_12 : decode cX12_twoDigits 12 = .ok (.imul, 1) := by decide +kernel
theorem dX12_twoDigits_13 : decode cX12_twoDigits 13 = .ok (.aload_n 0, 1) := by decide +kernel
theorem dX12_twoDigits_14 : decode cX12_twoDigits 14 = .ok (.bipush 48, 2) := by decide +kernel
theorem dX12_twoDigits_16 : decode cX12_twoDigits 16 = .ok (.bipush 10, 2) := by decide +kernel
theorem dX12_twoDigits_18 : decode cX12_twoDigits 18 = .ok (.invokevirtual 147, 3) := by decide +kernel
theorem dX12_twoDigits_21 : decode cX12_twoDigits 21 = .ok (.iadd, 1) := by decide +kernel
theorem dX12_twoDigits_22 : decode cX12_twoDigits 22 = .ok (.ireturn, 1) := by decide +kernel
theorem dX12_readAct_0 : decode cX12_readAct 0 = .ok (.aload_n 0, 1) := by decide +kernel
theorem dX12_readAct_1 : decode cX12_readAct 1 = .ok (.invokevirtual 135, 3) := by decide +kernel
theorem dX12_readAct_4 : decode cX12_readAct 4 = .ok (.istore_n 2, 1) := by decide +kernel
theorem dX12_readAct_5 : decode cX12_readAct 5 = .ok (.iload_n 2, 1) := by decide +kernel
theorem dX12_readAct_6 : decode cX12_readAct 6 = .ok (.bipush 112, 2) := by decide +kernel
theorem dX12_readAct_8 : decode cX12_readAct 8 = .ok (.if_icmp .eq 48, 3) := by decide +kernel
theorem dX12_readAct_11 : decode cX12_readAct 11 = .ok (.iload_n 2, 1) := by decide +kernel
theorem dX12_readAct_12 : decode cX12_readAct 12 = .ok (.bipush 116, 2) := by decide +kernel
theorem dX12_readAct_14 : decode cX12_readAct 14 = .ok (.if_icmp .eq 42, 3) := by decide +kernel
theorem dX12_readAct_17 : decode cX12_readAct 17 = .ok (.iload_n 2, 1) := by decide +kernel
theorem dX12_readAct_18 : decode cX12_readAct 18 = .ok (.bipush 106, 2) := by decide +kernel
theorem dX12_readAct_20 : decode cX12_readAct 20 = .ok (.if_icmp .eq 36, 3) := by decide +kernel
theorem dX12_readAct_23 : decode cX12_readAct 23 = .ok (.iload_n 2, 1) := by decide +kernel
theorem dX12_readAct_24 : decode cX12_readAct 24 = .ok (.bipush 99, 2) := by decide +kernel
theorem dX12_readAct_26 : decode cX12_readAct 26 = .ok (.if_icmp .eq 30, 3) := by decide +kernel
theorem dX12_readAct_29 : decode cX12_readAct 29 = .ok (.iload_n 2, 1) := by decide +kernel
theorem dX12_readAct_30 : decode cX12_readAct 30 = .ok (.bipush 122, 2) := by decide +kernel
theorem dX12_readAct_32 : decode cX12_readAct 32 = .ok (.if_icmp .eq 24, 3) := by decide +kernel
theorem dX12_readAct_35 : decode cX12_readAct 35 = .ok (.iload_n 2, 1) := by decide +kernel
theorem dX12_readAct_36 : decode cX12_readAct 36 = .ok (.bipush 107, 2) := by decide +kernel
theorem dX12_readAct_38 : decode cX12_readAct 38 = .ok (.if_icmp .eq 18, 3) := by decide +kernel
theorem dX12_readAct_41 : decode cX12_readAct 41 = .ok (.iload_n 2, 1) := by decide +kernel
theorem dX12_readAct_42 : decode cX12_readAct 42 = .ok (.bipush 101, 2) := by decide +kernel
theorem dX12_readAct_44 : decode cX12_readAct 44 = .ok (.if_icmp .eq 12, 3) := by decide +kernel
theorem dX12_readAct_47 : decode cX12_readAct 47 = .ok (.aload_n 0, 1) := by decide +kernel
theorem dX12_readAct_48 : decode cX12_readAct 48 = .ok (.aload_n 0, 1) := by decide +kernel
theorem dX12_readAct_49 : decode cX12_readAct 49 = .ok (.getfield 121, 3) := by decide +kernel
theorem dX12_readAct_52 : decode cX12_readAct 52 = .ok (.invokevirtual 143, 3) := by decide +kernel
theorem dX12_readAct_55 : decode cX12_readAct 55 = .ok (.return_, 1) := by decide +kernel
theorem dX12_readAct_56 : decode cX12_readAct 56 = .ok (.aload_n 0, 1) := by decide +kernel
theorem dX12_readAct_57 : decode cX12_readAct 57 = .ok (.dup, 1) := by decide +kernel
theorem dX12_readAct_58 : decode cX12_readAct 58 = .ok (.getfield 121, 3) := by decide +kernel
theorem dX12_readAct_61 : decode cX12_readAct 61 = .ok (.iconst 1, 1) := by decide +kernel
theorem dX12_readAct_62 : decode cX12_readAct 62 = .ok (.iadd, 1) := by decide +kernel
theorem dX12_readAct_63 : decode cX12_readAct 63 = .ok (.putfield 121, 3) := by decide +kernel
theorem dX12_readAct_66 : decode cX12_readAct 66 = .ok (.aload_n 0, 1) := by decide +kernel
theorem dX12_readAct_67 : decode cX12_readAct 67 = .ok (.getfield 42, 3) := by decide +kernel
theorem dX12_readAct_70 : decode cX12_readAct 70 = .ok (.iload_n 1, 1) := by decide +kernel
theorem dX12_readAct_71 : decode cX12_readAct 71 = .ok (.iload_n 2, 1) := by decide +kernel
theorem dX12_readAct_72 : decode cX12_readAct 72 = .ok (.iastore, 1) := by decide +kernel
theorem dX12_readAct_73 : decode cX12_readAct 73 = .ok (.iload_n 2, 1) := by decide +kernel
theorem dX12_readAct_74 : decode cX12_readAct 74 = .ok (.bipush 106, 2) := by decide +kernel
theorem dX12_readAct_76 : decode cX12_readAct 76 = .ok (.if_icmp .eq 9, 3) := by decide +kernel
theorem dX12_readAct_79 : decode cX12_readAct 79 = .ok (.iload_n 2, 1) := by decide +kernel
theorem dX12_readAct_80 : decode cX12_readAct 80 = .ok (.bipush 101, 2) := by decide +kernel
theorem dX12_readAct_82 : decode cX12_readAct 82 = .ok (.if_icmp .ne 7, 3) := by decide +kernel
theorem dX12_readAct_85 : decode cX12_readAct 85 = .ok (.iconst 1, 1) := by decide +kernel
theorem dX12_readAct_86 : decode cX12_readAct 86 = .ok (.goto 4, 3) := by decide +kernel
theorem dX12_readAct_89 : decode cX12_readAct 89 = .ok (.iconst 0, 1) := by decide +kernel
theorem dX12_readAct_90 : decode cX12_readAct 90 = .ok (.istore_n 3, 1) := by decide +kernel
theorem dX12_readAct_91 : decode cX12_readAct 91 = .ok (.aload_n 0, 1) := by decide +kernel
theorem dX12_readAct_92 : decode cX12_readAct 92 = .ok (.getfield 42, 3) := by decide +kernel
theorem dX12_readAct_95 : decode cX12_readAct 95 = .ok (.iload_n 1, 1) := by decide +kernel
theorem dX12_readAct_96 : decode cX12_readAct 96 = .ok (.iconst 1, 1) := by decide +kernel
theorem dX12_readAct_97 : decode cX12_readAct 97 = .ok (.iadd, 1) := by decide +kernel
theorem dX12_readAct_98 : decode cX12_readAct 98 = .ok (.iload_n 3, 1) := by decide +kernel
theorem dX12_readAct_99 : decode cX12_readAct 99 = .ok (.ifCond .eq 14, 3) := by decide +kernel
theorem dX12_readAct_102 : decode cX12_readAct 102 = .ok (.aload_n 0, 1) := by decide +kernel
theorem dX12_readAct_103 : decode cX12_readAct 103 = .ok (.bipush 97, 2) := by decide +kernel
theorem dX12_readAct_105 : decode cX12_readAct 105 = .ok (.bipush 7, 2) := by decide +kernel
theorem dX12_readAct_107 : decode cX12_readAct 107 = .ok (.invokevirtual 147, 3) := by decide +kernel
theorem dX12_readAct_110 : decode cX12_readAct 110 = .ok (.goto 37, 3) := by decide +kernel
theorem dX12_readAct_113 : decode cX12_readAct 113 = .ok (.aload_n 0, 1) := by decide +kernel
theorem dX12_readAct_114 : decode cX12_readAct 114 = .ok (.bipush 48, 2) := by decide +kernel
theorem dX12_readAct_116 : decode cX12_readAct 116 = .ok (.iload_n 2, 1) := by decide +kernel
theorem dX12_readAct_117 : decode cX12_readAct 117 = .ok (.bipush 112, 2) := by decide +kernel
theorem dX12_readAct_119 : decode cX12_readAct 119 = .ok (.if_icmp .eq 9, 3) := by decide +kernel
theorem dX12_readAct_122 : decode cX12_readAct 122 = .ok (.iload_n 2, 1) := by decide +kernel
theorem dX12_readAct_123 : decode cX12_readAct 123 = .ok (.bipush 116, 2) := by decide +kernel
theorem dX12_readAct_125 : decode cX12_readAct 125 = .ok (.if_icmp .ne 7, 3) := by decide +kernel
theorem dX12_readAct_128 : decode cX12_readAct 128 = .ok (.iconst 4, 1) := by decide +kernel
theorem dX12_readAct_129 : decode cX12_readAct 129 = .ok (.goto 15, 3) := by decide +kernel
theorem dX12_readAct_132 : decode cX12_readAct 132 = .ok (.iload_n 2, 1) := by decide +kernel
theorem dX12_readAct_133 : decode cX12_readAct 133 = .ok (.bipush 99, 2) := by decide +kernel
theorem dX12_readAct_135 : decode cX12_readAct 135 = .ok (.if_icmp .ne 7, 3) := by decide +kernel
theorem dX12_readAct_138 : decode cX12_readAct 138 = .ok (.iconst 5, 1) := by decide +kernel
theorem dX12_readAct_139 : decode cX12_readAct 139 = .ok (.goto 5, 3) := by decide +kernel
theorem dX12_readAct_142 : decode cX12_readAct 142 = .ok (.bipush 10, 2) := by decide +kernel
theorem dX12_readAct_144 : decode cX12_readAct 144 = .ok (.invokevirtual 147, 3) := by decide +kernel
theorem dX12_readAct_147 : decode cX12_readAct 147 = .ok (.iastore, 1) := by decide +kernel
theorem dX12_readAct_148 : decode cX12_readAct 148 = .ok (.iload_n 2, 1) := by decide +kernel
theorem dX12_readAct_149 : decode cX12_readAct 149 = .ok (.bipush 112, 2) := by decide +kernel
theorem dX12_readAct_151 : decode cX12_readAct 151 = .ok (.if_icmp .ne 15, 3) := by decide +kernel
theorem dX12_readAct_154 : decode cX12_readAct 154 = .ok (.aload_n 0, 1) := by decide +kernel
theorem dX12_readAct_155 : decode cX12_readAct 155 = .ok (.getfield 42, 3) := by decide +kernel
theorem dX12_readAct_158 : decode cX12_readAct 158 = .ok (.iload_n 1, 1) := by decide +kernel
theorem dX12_readAct_159 : decode cX12_readAct 159 = .ok (.iconst 2, 1) := by decide +kernel
theorem dX12_readAct_160 : decode cX12_readAct 160 = .ok (.iadd, 1) := by decide +kernel
theorem dX12_readAct_161 : decode cX12_readAct 161 = .ok (.aload_n 0, 1) := by decide +kernel
theorem dX12_readAct_162 : decode cX12_readAct 162 = .ok (.invokevirtual 273, 3) := by decide +kernel
theorem dX12_readAct_165 : decode cX12_readAct 165 = .ok (.iastore, 1) := by decide +kernel
theorem dX12_readAct_166 : decode cX12_readAct 166 = .ok (.iload_n 2, 1) := by decide +kernel
theorem dX12_readAct_167 : decode cX12_readAct 167 = .ok (.bipush 116, 2) := by decide +kernel
theorem dX12_readAct_169 : decode cX12_readAct 169 = .ok (.if_icmp .ne 19, 3) := by decide +kernel
theorem dX12_readAct_172 : decode cX12_readAct 172 = .ok (.aload_n 0, 1) := by decide +kernel
theorem dX12_readAct_173 : decode cX12_readAct 173 = .ok (.getfield 42, 3) := by decide +kernel
theorem dX12_readAct_176 : decode cX12_readAct 176 = .ok (.iload_n 1, 1) := by decide +kernel
theorem dX12_readAct_177 : decode cX12_readAct 177 = .ok (.iconst 2, 1) := by decide +kernel
theorem dX12_readAct_178 : decode cX12_readAct 178 = .ok (.iadd, 1) := by decide +kernel
theorem dX12_readAct_179 : decode cX12_readAct 179 = .ok (.aload_n 0, 1) := by decide +kernel
theorem dX12_readAct_180 : decode cX12_readAct 180 = .ok (.bipush 48, 2) := by decide +kernel
theorem dX12_readAct_182 : decode cX12_readAct 182 = .ok (.bipush 10, 2) := by decide +kernel
theorem dX12_readAct_184 : decode cX12_readAct 184 = .ok (.invokevirtual 147, 3) := by decide +kernel
theorem dX12_readAct_187 : decode cX12_readAct 187 = .ok (.iastore, 1) := by decide +kernel
theorem dX12_readAct_188 : decode cX12_readAct 188 = .ok (.iload_n 3, 1) := by decide +kernel
theorem dX12_readAct_189 : decode cX12_readAct 189 = .ok (.ifCond .eq 19, 3) := by decide +kernel
theorem dX12_readAct_192 : decode cX12_readAct 192 = .ok (.aload_n 0, 1) := by decide +kernel
theorem dX12_readAct_193 : decode cX12_readAct 193 = .ok (.getfield 42, 3) := by decide +kernel
theorem dX12_readAct_196 : decode cX12_readAct 196 = .ok (.iload_n 1, 1) := by decide +kernel
theorem dX12_readAct_197 : decode cX12_readAct 197 = .ok (.iconst 2, 1) := by decide +kernel
theorem dX12_readAct_198 : decode cX12_readAct 198 = .ok (.iadd, 1) := by decide +kernel
theorem dX12_readAct_199 : decode cX12_readAct 199 = .ok (.aload_n 0, 1) := by decide +kernel
theorem dX12_readAct_200 : decode cX12_readAct 200 = .ok (.bipush 97, 2) := by decide +kernel
theorem dX12_readAct_202 : decode cX12_readAct 202 = .ok (.bipush 7, 2) := by decide +kernel
theorem dX12_readAct_204 : decode cX12_readAct 204 = .ok (.invokevirtual 147, 3) := by decide +kernel
theorem dX12_readAct_207 : decode cX12_readAct 207 = .ok (.iastore, 1) := by decide +kernel
theorem dX12_readAct_208 : decode cX12_readAct 208 = .ok (.iload_n 2, 1) := by decide +kernel
theorem dX12_readAct_209 : decode cX12_readAct 209 = .ok (.bipush 99, 2) := by decide +kernel
theorem dX12_readAct_211 : decode cX12_readAct 211 = .ok (.if_icmp .ne 18, 3) := by decide +kernel
theorem dX12_readAct_214 : decode cX12_readAct 214 = .ok (.aload_n 0, 1) := by decide +kernel
theorem dX12_readAct_215 : decode cX12_readAct 215 = .ok (.getfield 42, 3) := by decide +kernel
theorem dX12_readAct_218 : decode cX12_readAct 218 = .ok (.iload_n 1, 1) := by decide +kernel
theorem dX12_readAct_219 : decode cX12_readAct 219 = .ok (.iconst 2, 1) := by decide +kernel
theorem dX12_readAct_220 : decode cX12_readAct 220 = .ok (.iadd, 1) := by decide +kernel
theorem dX12_readAct_221 : decode cX12_readAct 221 = .ok (.aload_n 0, 1) := by decide +kernel
theorem dX12_readAct_222 : decode cX12_readAct 222 = .ok (.bipush 48, 2) := by decide +kernel
theorem dX12_readAct_224 : decode cX12_readAct 224 = .ok (.iconst 5, 1) := by decide +kernel
theorem dX12_readAct_225 : decode cX12_readAct 225 = .ok (.invokevirtual 147, 3) := by decide +kernel
theorem dX12_readAct_228 : decode cX12_readAct 228 = .ok (.iastore, 1) := by decide +kernel
theorem dX12_readAct_229 : decode cX12_readAct 229 = .ok (.iload_n 2, 1) := by decide +kernel
theorem dX12_readAct_230 : decode cX12_readAct 230 = .ok (.bipush 106, 2) := by decide +kernel
theorem dX12_readAct_232 : decode cX12_readAct 232 = .ok (.if_icmp .eq 9, 3) := by decide +kernel
theorem dX12_readAct_235 : decode cX12_readAct 235 = .ok (.iload_n 2, 1) := by decide +kernel
theorem dX12_readAct_236 : decode cX12_readAct 236 = .ok (.bipush 99, 2) := by decide +kernel
theorem dX12_readAct_238 : decode cX12_readAct 238 = .ok (.if_icmp .ne 15, 3) := by decide +kernel
theorem dX12_readAct_241 : decode cX12_readAct 241 = .ok (.aload_n 0, 1) := by decide +kernel
theorem dX12_readAct_242 : decode cX12_readAct 242 = .ok (.getfield 42, 3) := by decide +kernel
theorem dX12_readAct_245 : decode cX12_readAct 245 = .ok (.iload_n 1, 1) := by decide +kernel
theorem dX12_readAct_246 : decode cX12_readAct 246 = .ok (.iconst 3, 1) := by decide +kernel
theorem dX12_readAct_247 : decode cX12_readAct 247 = .ok (.iadd, 1) := by decide +kernel
theorem dX12_readAct_248 : decode cX12_readAct 248 = .ok (.aload_n 0, 1) := by decide +kernel
theorem dX12_readAct_249 : decode cX12_readAct 249 = .ok (.invokevirtual 273, 3) := by decide +kernel
theorem dX12_readAct_252 : decode cX12_readAct 252 = .ok (.iastore, 1) := by decide +kernel
theorem dX12_readAct_253 : decode cX12_readAct 253 = .ok (.return_, 1) := by decide +kernel
theorem dX12_act_0 : decode cX12_act 0 = .ok (.iload_n 1, 1) := by decide +kernel
theorem dX12_act_1 : decode cX12_act 1 = .ok (.lookupswitch 189 #[(99, 132), (101, 161), (106, 103), (112, 51), (116, 77)], 51) := by decide +kernel
theorem dX12_act_52 : decode cX12_act 52 = .ok (.aload_n 0, 1) := by decide +kernel
theorem dX12_act_53 : decode cX12_act 53 = .ok (.getfield 9, 3) := by decide +kernel
theorem dX12_act_56 : decode cX12_act 56 = .ok (.iload_n 2, 1) := by decide +kernel
theorem dX12_act_57 : decode cX12_act 57 = .ok (.iload_n 3, 1) := by decide +kernel
theorem dX12_act_58 : decode cX12_act 58 = .ok (.invokestatic 235, 3) := by decide +kernel
theorem dX12_act_61 : decode cX12_act 61 = .ok (.ifCond .ge 5, 3) := by decide +kernel
theorem dX12_act_64 : decode cX12_act 64 = .ok (.iconst 0, 1) := by decide +kernel
theorem dX12_act_65 : decode cX12_act 65 = .ok (.ireturn, 1) := by decide +kernel
theorem dX12_act_66 : decode cX12_act 66 = .ok (.aload_n 0, 1) := by decide +kernel
theorem dX12_act_67 : decode cX12_act 67 = .ok (.getfield 9, 3) := by decide +kernel
theorem dX12_act_70 : decode cX12_act 70 = .ok (.iload_n 2, 1) := by decide +kernel
theorem dX12_act_71 : decode cX12_act 71 = .ok (.iload_n 3, 1) := by decide +kernel
theorem dX12_act_72 : decode cX12_act 72 = .ok (.invokestatic 169, 3) := by decide +kernel
theorem dX12_act_75 : decode cX12_act 75 = .ok (.pop, 1) := by decide +kernel
theorem dX12_act_76 : decode cX12_act 76 = .ok (.iconst 1, 1) := by decide +kernel
theorem dX12_act_77 : decode cX12_act 77 = .ok (.ireturn, 1) := by decide +kernel
theorem dX12_act_78 : decode cX12_act 78 = .ok (.aload_n 0, 1) := by decide +kernel
theorem dX12_act_79 : decode cX12_act 79 = .ok (.getfield 9, 3) := by decide +kernel
theorem dX12_act_82 : decode cX12_act 82 = .ok (.iload_n 2, 1) := by decide +kernel
theorem dX12_act_83 : decode cX12_act 83 = .ok (.iload_n 3, 1) := by decide +kernel
theorem dX12_act_84 : decode cX12_act 84 = .ok (.invokestatic 238, 3) := by decide +kernel
theorem dX12_act_87 : decode cX12_act 87 = .ok (.ifCond .ne 5, 3) := by decide +kernel
theorem dX12_act_90 : decode cX12_act 90 = .ok (.iconst 0, 1) := by decide +kernel
theorem dX12_act_91 : decode cX12_act 91 = .ok (.ireturn, 1) := by decide +kernel
theorem dX12_act_92 : decode cX12_act 92 = .ok (.aload_n 0, 1) := by decide +kernel
theorem dX12_act_93 : decode cX12_act 93 = .ok (.getfield 9, 3) := by decide +kernel
theorem dX12_act_96 : decode cX12_act 96 = .ok (.iload_n 2, 1) := by decide +kernel
theorem dX12_act_97 : decode cX12_act 97 = .ok (.iload_n 3, 1) := by decide +kernel
theorem dX12_act_98 : decode cX12_act 98 = .ok (.invokestatic 242, 3) := by decide +kernel
theorem dX12_act_101 : decode cX12_act 101 = .ok (.pop, 1) := by decide +kernel
theorem dX12_act_102 : decode cX12_act 102 = .ok (.iconst 1, 1) := by decide +kernel
theorem dX12_act_103 : decode cX12_act 103 = .ok (.ireturn, 1) := by decide +kernel
theorem dX12_act_104 : decode cX12_act 104 = .ok (.aload_n 0, 1) := by decide +kernel
theorem dX12_act_105 : decode cX12_act 105 = .ok (.getfield 9, 3) := by decide +kernel
theorem dX12_act_108 : decode cX12_act 108 = .ok (.iload_n 2, 1) := by decide +kernel
theorem dX12_act_109 : decode cX12_act 109 = .ok (.iload_n 3, 1) := by decide +kernel
theorem dX12_act_110 : decode cX12_act 110 = .ok (.iload 4, 2) := by decide +kernel
theorem dX12_act_112 : decode cX12_act 112 = .ok (.invokestatic 245, 3) := by decide +kernel
theorem dX12_act_115 : decode cX12_act 115 = .ok (.ifCond .ge 5, 3) := by decide +kernel
theorem dX12_act_118 : decode cX12_act 118 = .ok (.iconst 0, 1) := by decide +kernel
theorem dX12_act_119 : decode cX12_act 119 = .ok (.ireturn, 1) := by decide +kernel
theorem dX12_act_120 : decode cX12_act 120 = .ok (.aload_n 0, 1) := by decide +kernel
theorem dX12_act_121 : decode cX12_act 121 = .ok (.getfield 9, 3) := by decide +kernel
theorem dX12_act_124 : decode cX12_act 124 = .ok (.iload_n 2, 1) := by decide +kernel
theorem dX12_act_125 : decode cX12_act 125 = .ok (.iload_n 3, 1) := by decide +kernel
theorem dX12_act_126 : decode cX12_act 126 = .ok (.iload 4, 2) := by decide +kernel
theorem dX12_act_128 : decode cX12_act 128 = .ok (.invokestatic 224, 3) := by decide +kernel
theorem dX12_act_131 : decode cX12_act 131 = .ok (.iconst 1, 1) := by decide +kernel
theorem dX12_act_132 : decode cX12_act 132 = .ok (.ireturn, 1) := by decide +kernel
theorem dX12_act_133 : decode cX12_act 133 = .ok (.iload_n 2, 1) := by decide +kernel
theorem dX12_act_134 : decode cX12_act 134 = .ok (.iload_n 3, 1) := by decide +kernel
theorem dX12_act_135 : decode cX12_act 135 = .ok (.iload 4, 2) := by decide +kernel
theorem dX12_act_137 : decode cX12_act 137 = .ok (.invokestatic 249, 3) := by decide +kernel
theorem dX12_act_140 : decode cX12_act 140 = .ok (.ifCond .ne 5, 3) := by decide +kernel
theorem dX12_act_143 : decode cX12_act 143 = .ok (.iconst 0, 1) := by decide +kernel
theorem dX12_act_144 : decode cX12_act 144 = .ok (.ireturn, 1) := by decide +kernel
theorem dX12_act_145 : decode cX12_act 145 = .ok (.aload_n 0, 1) := by decide +kernel
theorem dX12_act_146 : decode cX12_act 146 = .ok (.getfield 9, 3) := by decide +kernel
theorem dX12_act_149 : decode cX12_act 149 = .ok (.bipush 77, 2) := by decide +kernel
theorem dX12_act_151 : decode cX12_act 151 = .ok (.iconst 5, 1) := by decide +kernel
theorem dX12_act_152 : decode cX12_act 152 = .ok (.iload_n 2, 1) := by decide +kernel
theorem dX12_act_153 : decode cX12_act 153 = .ok (.imul, 1) := by decide +kernel
theorem dX12_act_154 : decode cX12_act 154 = .ok (.iadd, 1) := by decide +kernel
theorem dX12_act_155 : decode cX12_act 155 = .ok (.iload_n 3, 1) := by decide +kernel
theorem dX12_act_156 : decode cX12_act 156 = .ok (.iadd, 1) := by decide +kernel
theorem dX12_act_157 : decode cX12_act 157 = .ok (.iload 4, 2) := by decide +kernel
theorem dX12_act_159 : decode cX12_act 159 = .ok (.iastore, 1) := by decide +kernel
theorem dX12_act_160 : decode cX12_act 160 = .ok (.iconst 1, 1) := by decide +kernel
theorem dX12_act_161 : decode cX12_act 161 = .ok (.ireturn, 1) := by decide +kernel
theorem dX12_act_162 : decode cX12_act 162 = .ok (.iload_n 2, 1) := by decide +kernel
theorem dX12_act_163 : decode cX12_act 163 = .ok (.iload_n 3, 1) := by decide +kernel
theorem dX12_act_164 : decode cX12_act 164 = .ok (.invokestatic 255, 3) := by decide +kernel
theorem dX12_act_167 : decode cX12_act 167 = .ok (.ifCond .ne 5, 3) := by decide +kernel
theorem dX12_act_170 : decode cX12_act 170 = .ok (.iconst 0, 1) := by decide +kernel
theorem dX12_act_171 : decode cX12_act 171 = .ok (.ireturn, 1) := by decide +kernel
theorem dX12_act_172 : decode cX12_act 172 = .ok (.aload_n 0, 1) := by decide +kernel
theorem dX12_act_173 : decode cX12_act 173 = .ok (.getfield 9, 3) := by decide +kernel
theorem dX12_act_176 : decode cX12_act 176 = .ok (.bipush 103, 2) := by decide +kernel
theorem dX12_act_178 : decode cX12_act 178 = .ok (.iload_n 2, 1) := by decide +kernel
theorem dX12_act_179 : decode cX12_act 179 = .ok (.iastore, 1) := by decide +kernel
theorem dX12_act_180 : decode cX12_act 180 = .ok (.aload_n 0, 1) := by decide +kernel
theorem dX12_act_181 : decode cX12_act 181 = .ok (.getfield 9, 3) := by decide +kernel
theorem dX12_act_184 : decode cX12_act 184 = .ok (.bipush 104, 2) := by decide +kernel
theorem dX12_act_186 : decode cX12_act 186 = .ok (.iload_n 3, 1) := by decide +kernel
theorem dX12_act_187 : decode cX12_act 187 = .ok (.iastore, 1) := by decide +kernel
theorem dX12_act_188 : decode cX12_act 188 = .ok (.iconst 1, 1) := by decide +kernel
theorem dX12_act_189 : decode cX12_act 189 = .ok (.ireturn, 1) := by decide +kernel
theorem dX12_act_190 : decode cX12_act 190 = .ok (.aload_n 0, 1) := by decide +kernel
theorem dX12_act_191 : decode cX12_act 191 = .ok (.getfield 9, 3) := by decide +kernel
theorem dX12_act_194 : decode cX12_act 194 = .ok (.iload_n 1, 1) := by decide +kernel
theorem dX12_act_195 : decode cX12_act 195 = .ok (.bipush 122, 2) := by decide +kernel
theorem dX12_act_197 : decode cX12_act 197 = .ok (.if_icmp .ne 7, 3) := by decide +kernel
theorem dX12_act_200 : decode cX12_act 200 = .ok (.iconst 0, 1) := by decide +kernel
theorem dX12_act_201 : decode cX12_act 201 = .ok (.goto 4, 3) := by decide +kernel
theorem dX12_act_204 : decode cX12_act 204 = .ok (.iconst 1, 1) := by decide +kernel
theorem dX12_act_205 : decode cX12_act 205 = .ok (.iload_n 2, 1) := by decide +kernel
theorem dX12_act_206 : decode cX12_act 206 = .ok (.invokestatic 252, 3) := by decide +kernel
theorem dX12_act_209 : decode cX12_act 209 = .ok (.ifCond .ge 5, 3) := by decide +kernel
theorem dX12_act_212 : decode cX12_act 212 = .ok (.iconst 0, 1) := by decide +kernel
theorem dX12_act_213 : decode cX12_act 213 = .ok (.ireturn, 1) := by decide +kernel
theorem dX12_act_214 : decode cX12_act 214 = .ok (.aload_n 0, 1) := by decide +kernel
theorem dX12_act_215 : decode cX12_act 215 = .ok (.getfield 9, 3) := by decide +kernel
theorem dX12_act_218 : decode cX12_act 218 = .ok (.iload_n 1, 1) := by decide +kernel
theorem dX12_act_219 : decode cX12_act 219 = .ok (.bipush 122, 2) := by decide +kernel
theorem dX12_act_221 : decode cX12_act 221 = .ok (.if_icmp .ne 8, 3) := by decide +kernel
theorem dX12_act_224 : decode cX12_act 224 = .ok (.bipush 102, 2) := by decide +kernel
theorem dX12_act_226 : decode cX12_act 226 = .ok (.goto 5, 3) := by decide +kernel
theorem dX12_act_229 : decode cX12_act 229 = .ok (.bipush 105, 2) := by decide +kernel
theorem dX12_act_231 : decode cX12_act 231 = .ok (.iload_n 2, 1) := by decide +kernel
theorem dX12_act_232 : decode cX12_act 232 = .ok (.iastore, 1) := by decide +kernel
theorem dX12_act_233 : decode cX12_act 233 = .ok (.iconst 1, 1) := by decide +kernel
theorem dX12_act_234 : decode cX12_act 234 = .ok (.ireturn, 1) := by decide +kernel
theorem dX12_undo_0 : decode cX12_undo 0 = .ok (.aload_n 0, 1) := by decide +kernel
theorem dX12_undo_1 : decode cX12_undo 1 = .ok (.iconst 0, 1) := by decide +kernel
theorem dX12_undo_2 : decode cX12_undo 2 = .ok (.putfield 94, 3) := by decide +kernel
theorem dX12_undo_5 : decode cX12_undo 5 = .ok (.aload_n 0, 1) := by decide +kernel
theorem dX12_undo_6 : decode cX12_undo 6 = .ok (.getfield 228, 3) := by decide +kernel
theorem dX12_undo_9 : decode cX12_undo 9 = .ok (.ifCond .ne 5, 3) := by decide +kernel
theorem dX12_undo_12 : decode cX12_undo 12 = .ok (.iconst (-1), 1) := by decide +kernel
theorem dX12_undo_13 : decode cX12_undo 13 = .ok (.ireturn, 1) := by decide +kernel
theorem dX12_undo_14 : decode cX12_undo 14 = .ok (.aload_n 0, 1) := by decide +kernel
theorem dX12_undo_15 : decode cX12_undo 15 = .ok (.dup, 1) := by decide +kernel
theorem dX12_undo_16 : decode cX12_undo 16 = .ok (.getfield 228, 3) := by decide +kernel
theorem dX12_undo_19 : decode cX12_undo 19 = .ok (.iconst 1, 1) := by decide +kernel
theorem dX12_undo_20 : decode cX12_undo 20 = .ok (.isub, 1) := by decide +kernel
theorem dX12_undo_21 : decode cX12_undo 21 = .ok (.putfield 228, 3) := by decide +kernel
theorem dX12_undo_24 : decode cX12_undo 24 = .ok (.iconst 0, 1) := by decide +kernel
theorem dX12_undo_25 : decode cX12_undo 25 = .ok (.istore_n 1, 1) := by decide +kernel
theorem dX12_undo_26 : decode cX12_undo 26 = .ok (.iload_n 1, 1) := by decide +kernel
theorem dX12_undo_27 : decode cX12_undo 27 = .ok (.bipush 106, 2) := by decide +kernel
theorem dX12_undo_29 : decode cX12_undo 29 = .ok (.if_icmp .ge 29, 3) := by decide +kernel
theorem dX12_undo_32 : decode cX12_undo 32 = .ok (.aload_n 0, 1) := by decide +kernel
theorem dX12_undo_33 : decode cX12_undo 33 = .ok (.getfield 9, 3) := by decide +kernel
theorem dX12_undo_36 : decode cX12_undo 36 = .ok (.iload_n 1, 1) := by decide +kernel
theorem dX12_undo_37 : decode cX12_undo 37 = .ok (.aload_n 0, 1) := by decide +kernel
theorem dX12_undo_38 : decode cX12_undo 38 = .ok (.getfield 33, 3) := by decide +kernel
theorem dX12_undo_41 : decode cX12_undo 41 = .ok (.bipush 106, 2) := by decide +kernel
theorem dX12_undo_43 : decode cX12_undo 43 = .ok (.aload_n 0, 1) := by decide +kernel
theorem dX12_undo_44 : decode cX12_undo 44 = .ok (.getfield 228, 3) := by decide +kernel
theorem dX12_undo_47 : decode cX12_undo 47 = .ok (.imul, 1) := by decide +kernel
theorem dX12_undo_48 : decode cX12_undo 48 = .ok (.iload_n 1, 1) := by decide +kernel
theorem dX12_undo_49 : decode cX12_undo 49 = .ok (.iadd, 1) := by decide +kernel
theorem dX12_undo_50 : decode cX12_undo 50 = .ok (.iaload, 1) := by decide +kernel
theorem dX12_undo_51 : decode cX12_undo 51 = .ok (.iastore, 1) := by decide +kernel
theorem dX12_undo_52 : decode cX12_undo 52 = .ok (.iinc 1 1, 3) := by decide +kernel
theorem dX12_undo_55 : decode cX12_undo 55 = .ok (.goto (-29), 3) := by decide +kernel
theorem dX12_undo_58 : decode cX12_undo 58 = .ok (.aload_n 0, 1) := by decide +kernel
theorem dX12_undo_59 : decode cX12_undo 59 = .ok (.dup, 1) := by decide +kernel
theorem dX12_undo_60 : decode cX12_undo 60 = .ok (.getfield 201, 3) := by decide +kernel
theorem dX12_undo_63 : decode cX12_undo 63 = .ok (.iconst 1, 1) := by decide +kernel
theorem dX12_undo_64 : decode cX12_undo 64 = .ok (.iadd, 1) := by decide +kernel
theorem dX12_undo_65 : decode cX12_undo 65 = .ok (.putfield 201, 3) := by decide +kernel
theorem dX12_undo_68 : decode cX12_undo 68 = .ok (.aload_n 0, 1) := by decide +kernel
theorem dX12_undo_69 : decode cX12_undo 69 = .ok (.getfield 228, 3) := by decide +kernel
theorem dX12_undo_72 : decode cX12_undo 72 = .ok (.ireturn, 1) := by decide +kernel
theorem dX12_emit_0 : decode cX12_emit 0 = .ok (.iconst 0, 1) := by decide +kernel
theorem dX12_emit_1 : decode cX12_emit 1 = .ok (.istore_n 3, 1) := by decide +kernel
theorem dX12_emit_2 : decode cX12_emit 2 = .ok (.iload_n 3, 1) := by decide +kernel
theorem dX12_emit_3 : decode cX12_emit 3 = .ok (.iload_n 1, 1) := by decide +kernel
theorem dX12_emit_4 : decode cX12_emit 4 = .ok (.if_icmp .ge 29, 3) := by decide +kernel
theorem dX12_emit_7 : decode cX12_emit 7 = .ok (.aload_n 0, 1) := by decide +kernel
theorem dX12_emit_8 : decode cX12_emit 8 = .ok (.getfield 45, 3) := by decide +kernel
theorem dX12_emit_11 : decode cX12_emit 11 = .ok (.bipush 8, 2) := by decide +kernel
theorem dX12_emit_13 : decode cX12_emit 13 = .ok (.aload_n 0, 1) := by decide +kernel
theorem dX12_emit_14 : decode cX12_emit 14 = .ok (.getfield 276, 3) := by decide +kernel
theorem dX12_emit_17 : decode cX12_emit 17 = .ok (.imul, 1) := by decide +kernel
theorem dX12_emit_18 : decode cX12_emit 18 = .ok (.iload_n 3, 1) := by decide +kernel
theorem dX12_emit_19 : decode cX12_emit 19 = .ok (.iadd, 1) := by decide +kernel
theorem dX12_emit_20 : decode cX12_emit 20 = .ok (.aload_n 0, 1) := by decide +kernel
theorem dX12_emit_21 : decode cX12_emit 21 = .ok (.getfield 60, 3) := by decide +kernel
theorem dX12_emit_24 : decode cX12_emit 24 = .ok (.iload_n 3, 1) := by decide +kernel
theorem dX12_emit_25 : decode cX12_emit 25 = .ok (.iaload, 1) := by decide +kernel
theorem dX12_emit_26 : decode cX12_emit 26 = .ok (.iastore, 1) := by decide +kernel
theorem dX12_emit_27 : decode cX12_emit 27 = .ok (.iinc 3 1, 3) := by decide +kernel
theorem dX12_emit_30 : decode cX12_emit 30 = .ok (.goto (-28), 3) := by decide +kernel
theorem dX12_emit_33 : decode cX12_emit 33 = .ok (.aload_n 0, 1) := by decide +kernel
theorem dX12_emit_34 : decode cX12_emit 34 = .ok (.getfield 48, 3) := by decide +kernel
theorem dX12_emit_37 : decode cX12_emit 37 = .ok (.aload_n 0, 1) := by decide +kernel
theorem dX12_emit_38 : decode cX12_emit 38 = .ok (.getfield 276, 3) := by decide +kernel
theorem dX12_emit_41 : decode cX12_emit 41 = .ok (.iload_n 1, 1) := by decide +kernel
theorem dX12_emit_42 : decode cX12_emit 42 = .ok (.iastore, 1) := by decide +kernel
theorem dX12_emit_43 : decode cX12_emit 43 = .ok (.aload_n 0, 1) := by decide +kernel
theorem dX12_emit_44 : decode cX12_emit 44 = .ok (.getfield 51, 3) := by decide +kernel
theorem dX12_emit_47 : decode cX12_emit 47 = .ok (.aload_n 0, 1) := by decide +kernel
theorem dX12_emit_48 : decode cX12_emit 48 = .ok (.getfield 276, 3) := by decide +kernel
theorem dX12_emit_51 : decode cX12_emit 51 = .ok (.iload_n 2, 1) := by decide +kernel
theorem dX12_emit_52 : decode cX12_emit 52 = .ok (.iastore, 1) := by decide +kernel
theorem dX12_emit_53 : decode cX12_emit 53 = .ok (.aload_n 0, 1) := by decide +kernel
theorem dX12_emit_54 : decode cX12_emit 54 = .ok (.dup, 1) := by decide +kernel
theorem dX12_emit_55 : decode cX12_emit 55 = .ok (.getfield 276, 3) := by decide +kernel
theorem dX12_emit_58 : decode cX12_emit 58 = .ok (.iconst 1, 1) := by decide +kernel
theorem dX12_emit_59 : decode cX12_emit 59 = .ok (.iadd, 1) := by decide +kernel
theorem dX12_emit_60 : decode cX12_emit 60 = .ok (.putfield 276, 3) := by decide +kernel
theorem dX12_emit_63 : decode cX12_emit 63 = .ok (.return_, 1) := by decide +kernel
theorem dX12_layChoices_0 : decode cX12_layChoices 0 = .ok (.iload_n 2, 1) := by decide +kernel
theorem dX12_layChoices_1 : decode cX12_layChoices 1 = .ok (.iconst 4, 1) := by decide +kernel
theorem dX12_layChoices_2 : decode cX12_layChoices 2 = .ok (.if_icmp .ne 32, 3) := by decide +kernel
theorem dX12_layChoices_5 : decode cX12_layChoices 5 = .ok (.aload_n 0, 1) := by decide +kernel
theorem dX12_layChoices_6 : decode cX12_layChoices 6 = .ok (.iload_n 3, 1) := by decide +kernel
theorem dX12_layChoices_7 : decode cX12_layChoices 7 = .ok (.iconst 0, 1) := by decide +kernel
theorem dX12_layChoices_8 : decode cX12_layChoices 8 = .ok (.invokevirtual 279, 3) := by decide +kernel
theorem dX12_layChoices_11 : decode cX12_layChoices 11 = .ok (.aload_n 0, 1) := by decide +kernel
theorem dX12_layChoices_12 : decode cX12_layChoices 12 = .ok (.getfield 51, 3) := by decide +kernel
theorem dX12_layChoices_15 : decode cX12_layChoices 15 = .ok (.aload_n 0, 1) := by decide +kernel
theorem dX12_layChoices_16 : decode cX12_layChoices 16 = .ok (.getfield 276, 3) := by decide +kernel
theorem dX12_layChoices_19 : decode cX12_layChoices 19 = .ok (.iconst 1, 1) := by decide +kernel
theorem dX12_layChoices_20 : decode cX12_layChoices 20 = .ok (.isub, 1) := by decide +kernel
theorem dX12_layChoices_21 : decode cX12_layChoices 21 = .ok (.aload_n 0, 1) := by decide +kernel
theorem dX12_layChoices_22 : decode cX12_layChoices 22 = .ok (.aload_n 1, 1) := by decide +kernel
theorem dX12_layChoices_23 : decode cX12_layChoices 23 = .ok (.aload_n 0, 1) := by decide +kernel
theorem dX12_layChoices_24 : decode cX12_layChoices 24 = .ok (.getfield 276, 3) := by decide +kernel
theorem dX12_layChoices_27 : decode cX12_layChoices 27 = .ok (.iconst 1, 1) := by decide +kernel
theorem dX12_layChoices_28 : decode cX12_layChoices 28 = .ok (.isub, 1) := by decide +kernel
theorem dX12_layChoices_29 : decode cX12_layChoices 29 = .ok (.invokevirtual 283, 3) := by decide +kernel
theorem dX12_layChoices_32 : decode cX12_layChoices 32 = .ok (.iastore, 1) := by decide +kernel
theorem dX12_layChoices_33 : decode cX12_layChoices 33 = .ok (.return_, 1) := by decide +kernel
theorem dX12_layChoices_34 : decode cX12_layChoices 34 = .ok (.aload_n 1, 1) := by decide +kernel
theorem dX12_layChoices_35 : decode cX12_layChoices 35 = .ok (.bipush 24, 2) := by decide +kernel
theorem dX12_layChoices_37 : decode cX12_layChoices 37 = .ok (.iload_n 2, 1) := by decide +kernel
theorem dX12_layChoices_38 : decode cX12_layChoices 38 = .ok (.iadd, 1) := by decide +kernel
theorem dX12_layChoices_39 : decode cX12_layChoices 39 = .ok (.iaload, 1) := by decide +kernel
theorem dX12_layChoices_40 : decode cX12_layChoices 40 = .ok (.ifCond .ne 13, 3) := by decide +kernel
theorem dX12_layChoices_43 : decode cX12_layChoices 43 = .ok (.aload_n 0, 1) := by decide +kernel
theorem dX12_layChoices_44 : decode cX12_layChoices 44 = .ok (.aload_n 1, 1) := by decide +kernel
theorem dX12_layChoices_45 : decode cX12_layChoices 45 = .ok (.iload_n 2, 1) := by decide +kernel
theorem dX12_layChoices_46 : decode cX12_layChoices 46 = .ok (.iconst 1, 1) := by decide +kernel
theorem dX12_layChoices_47 : decode cX12_layChoices 47 = .ok (.iadd, 1) := by decide +kernel
theorem dX12_layChoices_48 : decode cX12_layChoices 48 = .ok (.iload_n 3, 1) := by decide +kernel
theorem dX12_layChoices_49 : decode cX12_layChoices 49 = .ok (.invokevirtual 286, 3) := by decide +kernel
theorem dX12_layChoices_52 : decode cX12_layChoices 52 = .ok (.return_, 1) := by decide +kernel
theorem dX12_layChoices_53 : decode cX12_layChoices 53 = .ok (.iconst 0, 1) := by decide +kernel
theorem dX12_layChoices_54 : decode cX12_layChoices 54 = .ok (.istore 4, 2) := by decide +kernel
theorem dX12_layChoices_56 : decode cX12_layChoices 56 = .ok (.iload 4, 2) := by decide +kernel
theorem dX12_layChoices_58 : decode cX12_layChoices 58 = .ok (.aload_n 1, 1) := by decide +kernel
theorem dX12_layChoices_59 : decode cX12_layChoices 59 = .ok (.bipush 24, 2) := by decide +kernel
theorem dX12_layChoices_61 : decode cX12_layChoices 61 = .ok (.iload_n 2, 1) := by decide +kernel
theorem dX12_layChoices_62 : decode cX12_layChoices 62 = .ok (.iadd, 1) := by decide +kernel
theorem dX12_layChoices_63 : decode cX12_layChoices 63 = .ok (.iaload, 1) := by decide +kernel
theorem dX12_layChoices_64 : decode cX12_layChoices 64 = .ok (.if_icmp .ge 28, 3) := by decide +kernel
theorem dX12_layChoices_67 : decode cX12_layChoices 67 = .ok (.aload_n 0, 1) := by decide +kernel
theorem dX12_layChoices_68 : decode cX12_layChoices 68 = .ok (.getfield 60, 3) := by decide +kernel
theorem dX12_layChoices_71 : decode cX12_layChoices 71 = .ok (.iload_n 3, 1) := by decide +kernel
theorem dX12_layChoices_72 : decode cX12_layChoices 72 = .ok (.iload 4, 2) := by decide +kernel
theorem dX12_layChoices_74 : decode cX12_layChoices 74 = .ok (.iastore, 1) := by decide +kernel
theorem dX12_layChoices_75 : decode cX12_layChoices 75 = .ok (.aload_n 0, 1) := by decide +kernel
theorem dX12_layChoices_76 : decode cX12_layChoices 76 = .ok (.aload_n 1, 1) := by decide +kernel
theorem dX12_layChoices_77 : decode cX12_layChoices 77 = .ok (.iload_n 2, 1) := by decide +kernel
theorem dX12_layChoices_78 : decode cX12_layChoices 78 = .ok (.iconst 1, 1) := by decide +kernel
theorem dX12_layChoices_79 : decode cX12_layChoices 79 = .ok (.iadd, 1) := by decide +kernel
theorem dX12_layChoices_80 : decode cX12_layChoices 80 = .ok (.iload_n 3, 1) := by decide +kernel
theorem dX12_layChoices_81 : decode cX12_layChoices 81 = .ok (.iconst 1, 1) := by decide +kernel
theorem dX12_layChoices_82 : decode cX12_layChoices 82 = .ok (.iadd, 1) := by decide +kernel
theorem dX12_layChoices_83 : decode cX12_layChoices 83 = .ok (.invokevirtual 286, 3) := by decide +kernel
theorem dX12_layChoices_86 : decode cX12_layChoices 86 = .ok (.iinc 4 1, 3) := by decide +kernel
theorem dX12_layChoices_89 : decode cX12_layChoices 89 = .ok (.goto (-33), 3) := by decide +kernel
theorem dX12_layChoices_92 : decode cX12_layChoices 92 = .ok (.return_, 1) := by decide +kernel
theorem dX12_hangOf_0 : decode cX12_hangOf 0 = .ok (.iload_n 1, 1) := by decide +kernel
theorem dX12_hangOf_1 : decode cX12_hangOf 1 = .ok (.istore_n 2, 1) := by decide +kernel
theorem dX12_hangOf_2 : decode cX12_hangOf 2 = .ok (.aload_n 0, 1) := by decide +kernel
theorem dX12_hangOf_3 : decode cX12_hangOf 3 = .ok (.getfield 63, 3) := by decide +kernel
theorem dX12_hangOf_6 : decode cX12_hangOf 6 = .ok (.iload_n 2, 1) := by decide +kernel
theorem dX12_hangOf_7 : decode cX12_hangOf 7 = .ok (.iaload, 1) := by decide +kernel
theorem dX12_hangOf_8 : decode cX12_hangOf 8 = .ok (.iload_n 2, 1) := by decide +kernel
theorem dX12_hangOf_9 : decode cX12_hangOf 9 = .ok (.if_icmp .eq 13, 3) := by decide +kernel
theorem dX12_hangOf_12 : decode cX12_hangOf 12 = .ok (.aload_n 0, 1) := by decide +kernel
theorem dX12_hangOf_13 : decode cX12_hangOf 13 = .ok (.getfield 63, 3) := by decide +kernel
theorem dX12_hangOf_16 : decode cX12_hangOf 16 = .ok (.iload_n 2, 1) := by decide +kernel
theorem dX12_hangOf_17 : decode cX12_hangOf 17 = .ok (.iaload, 1) := by decide +kernel
theorem dX12_hangOf_18 : decode cX12_hangOf 18 = .ok (.istore_n 2, 1) := by decide +kernel
theorem dX12_hangOf_19 : decode cX12_hangOf 19 = .ok (.goto (-17), 3) := by decide +kernel
theorem dX12_hangOf_22 : decode cX12_hangOf 22 = .ok (.iload_n 2, 1) := by decide +kernel
theorem dX12_hangOf_23 : decode cX12_hangOf 23 = .ok (.ireturn, 1) := by decide +kernel
theorem dX12_treeOf_0 : decode cX12_treeOf 0 = .ok (.iconst 0, 1) := by decide +kernel
theorem dX12_treeOf_1 : decode cX12_treeOf 1 = .ok (.istore_n 3, 1) := by decide +kernel
theorem dX12_treeOf_2 : decode cX12_treeOf 2 = .ok (.iload_n 3, 1) := by decide +kernel
theorem dX12_treeOf_3 : decode cX12_treeOf 3 = .ok (.bipush 7, 2) := by decide +kernel
theorem dX12_treeOf_5 : decode cX12_treeOf 5 = .ok (.if_icmp .ge 16, 3) := by decide +kernel
theorem dX12_treeOf_8 : decode cX12_treeOf 8 = .ok (.aload_n 0, 1) := by decide +kernel
theorem dX12_treeOf_9 : decode cX12_treeOf 9 = .ok (.getfield 63, 3) := by decide +kernel
theorem dX12_treeOf_12 : decode cX12_treeOf 12 = .ok (.iload_n 3, 1) := by decide +kernel
theorem dX12_treeOf_13 : decode cX12_treeOf 13 = .ok (.iload_n 3, 1) := by decide +kernel
theorem dX12_treeOf_14 : decode cX12_treeOf 14 = .ok (.iastore, 1) := by decide +kernel
theorem dX12_treeOf_15 : decode cX12_treeOf 15 = .ok (.iinc 3 1, 3) := by decide +kernel
theorem dX12_treeOf_18 : decode cX12_treeOf 18 = .ok (.goto (-16), 3) := by decide +kernel
theorem dX12_treeOf_21 : decode cX12_treeOf 21 = .ok (.iconst 0, 1) := by decide +kernel
theorem dX12_treeOf_22 : decode cX12_treeOf 22 = .ok (.istore_n 3, 1) := by decide +kernel
theorem dX12_treeOf_23 : decode cX12_treeOf 23 = .ok (.iconst 0, 1) := by decide +kernel
theorem dX12_treeOf_24 : decode cX12_treeOf 24 = .ok (.istore 4, 2) := by decide +kernel
theorem dX12_treeOf_26 : decode cX12_treeOf 26 = .ok (.iload 4, 2) := by decide +kernel
theorem dX12_treeOf_28 : decode cX12_treeOf 28 = .ok (.iload_n 2, 1) := by decide +kernel
theorem dX12_treeOf_29 : decode cX12_treeOf 29 = .ok (.if_icmp .ge 72, 3) := by decide +kernel
theorem dX12_treeOf_32 : decode cX12_treeOf 32 = .ok (.aload_n 1, 1) := by decide +kernel
theorem dX12_treeOf_33 : decode cX12_treeOf 33 = .ok (.aload_n 0, 1) := by decide +kernel
theorem dX12_treeOf_34 : decode cX12_treeOf 34 = .ok (.getfield 60, 3) := by decide +kernel
theorem dX12_treeOf_37 : decode cX12_treeOf 37 = .ok (.iload 4, 2) := by decide +kernel
theorem dX12_treeOf_39 : decode cX12_treeOf 39 = .ok (.iaload, 1) := by decide +kernel
theorem dX12_treeOf_40 : decode cX12_treeOf 40 = .ok (.invokestatic 220, 3) := by decide +kernel
theorem dX12_treeOf_43 : decode cX12_treeOf 43 = .ok (.istore 5, 2) := by decide +kernel
theorem dX12_treeOf_45 : decode cX12_treeOf 45 = .ok (.aload_n 0, 1) := by decide +kernel
theorem dX12_treeOf_46 : decode cX12_treeOf 46 = .ok (.iload 5, 2) := by decide +kernel
theorem dX12_treeOf_48 : decode cX12_treeOf 48 = .ok (.bipush 7, 2) := by decide +kernel
theorem dX12_treeOf_50 : decode cX12_treeOf 50 = .ok (.idiv, 1) := by decide +kernel
theorem dX12_treeOf_51 : decode cX12_treeOf 51 = .ok (.invokevirtual 290, 3) := by decide +kernel
theorem dX12_treeOf_54 : decode cX12_treeOf 54 = .ok (.istore 6, 2) := by decide +kernel
theorem dX12_treeOf_56 : decode cX12_treeOf 56 = .ok (.aload_n 0, 1) := by decide +kernel
theorem dX12_treeOf_57 : decode cX12_treeOf 57 = .ok (.iload 5, 2) := by decide +kernel
theorem dX12_treeOf_59 : decode cX12_treeOf 59 = .ok (.bipush 7, 2) := by decide +kernel
theorem dX12_treeOf_61 : decode cX12_treeOf 61 = .ok (.irem, 1) := by decide +kernel
theorem dX12_treeOf_62 : decode cX12_treeOf 62 = .ok (.invokevirtual 290, 3) := by decide +kernel
theorem dX12_treeOf_65 : decode cX12_treeOf 65 = .ok (.istore 7, 2) := by decide +kernel
theorem dX12_treeOf_67 : decode cX12_treeOf 67 = .ok (.iload 6, 2) := by decide +kernel
theorem dX12_treeOf_69 : decode cX12_treeOf 69 = .ok (.iload 7, 2) := by decide +kernel
theorem dX12_treeOf_71 : decode cX12_treeOf 71 = .ok (.if_icmp .ne 5, 3) := by decide +kernel
theorem dX12_treeOf_74 : decode cX12_treeOf 74 = .ok (.iconst (-1), 1) := by decide +kernel
theorem dX12_treeOf_75 : decode cX12_treeOf 75 = .ok (.ireturn, 1) := by decide +kernel
theorem dX12_treeOf_76 : decode cX12_treeOf 76 = .ok (.aload_n 0, 1) := by decide +kernel
theorem dX12_treeOf_77 : decode cX12_treeOf 77 = .ok (.getfield 63, 3) := by decide +kernel
theorem dX12_treeOf_80 : decode cX12_treeOf 80 = .ok (.iload 6, 2) := by decide +kernel
theorem dX12_treeOf_82 : decode cX12_treeOf 82 = .ok (.iload 7, 2) := by decide +kernel
theorem dX12_treeOf_84 : decode cX12_treeOf 84 = .ok (.iastore, 1) := by decide +kernel
theorem dX12_treeOf_85 : decode cX12_treeOf 85 = .ok (.iload_n 3, 1) := by decide +kernel
theorem dX12_treeOf_86 : decode cX12_treeOf 86 = .ok (.aload_n 1, 1) := by decide +kernel
theorem dX12_treeOf_87 : decode cX12_treeOf 87 = .ok (.bipush 28, 2) := by decide +kernel
theorem dX12_treeOf_89 : decode cX12_treeOf 89 = .ok (.iload 5, 2) := by decide +kernel
theorem dX12_treeOf_91 : decode cX12_treeOf 91 = .ok (.iadd, 1) := by decide +kernel
theorem dX12_treeOf_92 : decode cX12_treeOf 92 = .ok (.iaload, 1) := by decide +kernel
theorem dX12_treeOf_93 : decode cX12_treeOf 93 = .ok (.iadd, 1) := by decide +kernel
theorem dX12_treeOf_94 : decode cX12_treeOf 94 = .ok (.istore_n 3, 1) := by decide +kernel
theorem dX12_treeOf_95 : decode cX12_treeOf 95 = .ok (.iinc 4 1, 3) := by decide +kernel
theorem dX12_treeOf_98 : decode cX12_treeOf 98 = .ok (.goto (-72), 3) := by decide +kernel
theorem dX12_treeOf_101 : decode cX12_treeOf 101 = .ok (.iload_n 3, 1) := by decide +kernel
theorem dX12_treeOf_102 : decode cX12_treeOf 102 = .ok (.ireturn, 1) := by decide +kernel
theorem dX12_layTrees_0 : decode cX12_layTrees 0 = .ok (.aload_n 0, 1) := by decide +kernel
theorem dX12_layTrees_1 : decode cX12_layTrees 1 = .ok (.aload_n 1, 1) := by decide +kernel
theorem dX12_layTrees_2 : decode cX12_layTrees 2 = .ok (.iload_n 3, 1) := by decide +kernel
theorem dX12_layTrees_3 : decode cX12_layTrees 3 = .ok (.invokevirtual 293, 3) := by decide +kernel
theorem dX12_layTrees_6 : decode cX12_layTrees 6 = .ok (.istore 6, 2) := by decide +kernel
theorem dX12_layTrees_8 : decode cX12_layTrees 8 = .ok (.iload 6, 2) := by decide +kernel
theorem dX12_layTrees_10 : decode cX12_layTrees 10 = .ok (.iconst (-1), 1) := by decide +kernel
theorem dX12_layTrees_11 : decode cX12_layTrees 11 = .ok (.if_icmp .ne 4, 3) := by decide +kernel
theorem dX12_layTrees_14 : decode cX12_layTrees 14 = .ok (.return_, 1) := by decide +kernel
theorem dX12_layTrees_15 : decode cX12_layTrees 15 = .ok (.iload_n 3, 1) := by decide +kernel
theorem dX12_layTrees_16 : decode cX12_layTrees 16 = .ok (.iload 4, 2) := by decide +kernel
theorem dX12_layTrees_18 : decode cX12_layTrees 18 = .ok (.if_icmp .ne 11, 3) := by decide +kernel
theorem dX12_layTrees_21 : decode cX12_layTrees 21 = .ok (.aload_n 0, 1) := by decide +kernel
theorem dX12_layTrees_22 : decode cX12_layTrees 22 = .ok (.iload_n 3, 1) := by decide +kernel
theorem dX12_layTrees_23 : decode cX12_layTrees 23 = .ok (.iload 6, 2) := by decide +kernel
theorem dX12_layTrees_25 : decode cX12_layTrees 25 = .ok (.invokevirtual 279, 3) := by decide +kernel
theorem dX12_layTrees_28 : decode cX12_layTrees 28 = .ok (.return_, 1) := by decide +kernel
theorem dX12_layTrees_29 : decode cX12_layTrees 29 = .ok (.iload_n 2, 1) := by decide +kernel
theorem dX12_layTrees_30 : decode cX12_layTrees 30 = .ok (.istore 7, 2) := by decide +kernel
theorem dX12_layTrees_32 : decode cX12_layTrees 32 = .ok (.iload 7, 2) := by decide +kernel
theorem dX12_layTrees_34 : decode cX12_layTrees 34 = .ok (.iload 5, 2) := by decide +kernel
theorem dX12_layTrees_36 : decode cX12_layTrees 36 = .ok (.if_icmp .ge 33, 3) := by decide +kernel
theorem dX12_layTrees_39 : decode cX12_layTrees 39 = .ok (.aload_n 0, 1) := by decide +kernel
theorem dX12_layTrees_40 : decode cX12_layTrees 40 = .ok (.getfield 60, 3) := by decide +kernel
theorem dX12_layTrees_43 : decode cX12_layTrees 43 = .ok (.iload_n 3, 1) := by decide +kernel
theorem dX12_layTrees_44 : decode cX12_layTrees 44 = .ok (.iload 7, 2) := by decide +kernel
theorem dX12_layTrees_46 : decode cX12_layTrees 46 = .ok (.iastore, 1) := by decide +kernel
theorem dX12_layTrees_47 : decode cX12_layTrees 47 = .ok (.aload_n 0, 1) := by decide +kernel
theorem dX12_layTrees_48 : decode cX12_layTrees 48 = .ok (.aload_n 1, 1) := by decide +kernel
theorem dX12_layTrees_49 : decode cX12_layTrees 49 = .ok (.iload 7, 2) := by decide +kernel
theorem dX12_layTrees_51 : decode cX12_layTrees 51 = .ok (.iconst 1, 1) := by decide +kernel
theorem dX12_layTrees_52 : decode cX12_layTrees 52 = .ok (.iadd, 1) := by decide +kernel
theorem dX12_layTrees_53 : decode cX12_layTrees 53 = .ok (.iload_n 3, 1) := by decide +kernel
theorem dX12_layTrees_54 : decode cX12_layTrees 54 = .ok (.iconst 1, 1) := by decide +kernel
theorem dX12_layTrees_55 : decode cX12_layTrees 55 = .ok (.iadd, 1) := by decide +kernel
theorem dX12_layTrees_56 : decode cX12_layTrees 56 = .ok (.iload 4, 2) := by decide +kernel
theorem dX12_layTrees_58 : decode cX12_layTrees 58 = .ok (.iload 5, 2) := by decide +kernel
theorem dX12_layTrees_60 : decode cX12_layTrees 60 = .ok (.invokevirtual 296, 3) := by decide +kernel
theorem dX12_layTrees_63 : decode cX12_layTrees 63 = .ok (.iinc 7 1, 3) := by decide +kernel
theorem dX12_layTrees_66 : decode cX12_layTrees 66 = .ok (.goto (-34), 3) := by decide +kernel
theorem dX12_layTrees_69 : decode cX12_layTrees 69 = .ok (.return_, 1) := by decide +kernel
theorem dX12_layPairings_0 : decode cX12_layPairings 0 = .ok (.iload_n 2, 1) := by decide +kernel
theorem dX12_layPairings_1 : decode cX12_layPairings 1 = .ok (.aload_n 1, 1) := by decide +kernel
theorem dX12_layPairings_2 : decode cX12_layPairings 2 = .ok (.bipush 102, 2) := by decide +kernel
theorem dX12_layPairings_4 : decode cX12_layPairings 4 = .ok (.iaload, 1) := by decide +kernel
theorem dX12_layPairings_5 : decode cX12_layPairings 5 = .ok (.if_icmp .ne 11, 3) := by decide +kernel
theorem dX12_layPairings_8 : decode cX12_layPairings 8 = .ok (.aload_n 0, 1) := by decide +kernel
theorem dX12_layPairings_9 : decode cX12_layPairings 9 = .ok (.iload_n 2, 1) := by decide +kernel
theorem dX12_layPairings_10 : decode cX12_layPairings 10 = .ok (.iload 4, 2) := by decide +kernel
theorem dX12_layPairings_12 : decode cX12_layPairings 12 = .ok (.invokevirtual 279, 3) := by decide +kernel
theorem dX12_layPairings_15 : decode cX12_layPairings 15 = .ok (.return_, 1) := by decide +kernel
theorem dX12_layPairings_16 : decode cX12_layPairings 16 = .ok (.iconst 0, 1) := by decide +kernel
theorem dX12_layPairings_17 : decode cX12_layPairings 17 = .ok (.istore 5, 2) := by decide +kernel
theorem dX12_layPairings_19 : decode cX12_layPairings 19 = .ok (.iload 5, 2) := by decide +kernel
theorem dX12_layPairings_21 : decode cX12_layPairings 21 = .ok (.aload_n 1, 1) := by decide +kernel
theorem dX12_layPairings_22 : decode cX12_layPairings 22 = .ok (.bipush 102, 2) := by decide +kernel
theorem dX12_layPairings_24 : decode cX12_layPairings 24 = .ok (.iaload, 1) := by decide +kernel
theorem dX12_layPairings_25 : decode cX12_layPairings 25 = .ok (.if_icmp .ge 57, 3) := by decide +kernel
theorem dX12_layPairings_28 : decode cX12_layPairings 28 = .ok (.iload_n 3, 1) := by decide +kernel
theorem dX12_layPairings_29 : decode cX12_layPairings 29 = .ok (.iload 5, 2) := by decide +kernel
theorem dX12_layPairings_31 : decode cX12_layPairings 31 = .ok (.invokestatic 300, 3) := by decide +kernel
theorem dX12_layPairings_34 : decode cX12_layPairings 34 = .ok (.ifCond .eq 6, 3) := by decide +kernel
theorem dX12_layPairings_37 : decode cX12_layPairings 37 = .ok (.goto 39, 3) := by decide +kernel
theorem dX12_layPairings_40 : decode cX12_layPairings 40 = .ok (.aload_n 0, 1) := by decide +kernel
theorem dX12_layPairings_41 : decode cX12_layPairings 41 = .ok (.getfield 60, 3) := by decide +kernel
theorem dX12_layPairings_44 : decode cX12_layPairings 44 = .ok (.iload_n 2, 1) := by decide +kernel
theorem dX12_layPairings_45 : decode cX12_layPairings 45 = .ok (.iload 5, 2) := by decide +kernel
theorem dX12_layPairings_47 : decode cX12_layPairings 47 = .ok (.iastore, 1) := by decide +kernel
theorem dX12_layPairings_48 : decode cX12_layPairings 48 = .ok (.aload_n 0, 1) := by decide +kernel
theorem dX12_layPairings_49 : decode cX12_layPairings 49 = .ok (.aload_n 1, 1) := by decide +kernel
theorem dX12_layPairings_50 : decode cX12_layPairings 50 = .ok (.iload_n 2, 1) := by decide +kernel
theorem dX12_layPairings_51 : decode cX12_layPairings 51 = .ok (.iconst 1, 1) := by decide +kernel
theorem dX12_layPairings_52 : decode cX12_layPairings 52 = .ok (.iadd, 1) := by decide +kernel
theorem dX12_layPairings_53 : decode cX12_layPairings 53 = .ok (.iload_n 3, 1) := by decide +kernel
theorem dX12_layPairings_54 : decode cX12_layPairings 54 = .ok (.iconst 1, 1) := by decide +kernel
theorem dX12_layPairings_55 : decode cX12_layPairings 55 = .ok (.iload 5, 2) := by decide +kernel
theorem dX12_layPairings_57 : decode cX12_layPairings 57 = .ok (.ishl, 1) := by decide +kernel
theorem dX12_layPairings_58 : decode cX12_layPairings 58 = .ok (.ior, 1) := by decide +kernel
theorem dX12_layPairings_59 : decode cX12_layPairings 59 = .ok (.iload 4, 2) := by decide +kernel
theorem dX12_layPairings_61 : decode cX12_layPairings 61 = .ok (.aload_n 1, 1) := by decide +kernel
theorem dX12_layPairings_62 : decode cX12_layPairings 62 = .ok (.bipush 77, 2) := by decide +kernel
theorem dX12_layPairings_64 : decode cX12_layPairings 64 = .ok (.iconst 5, 1) := by decide +kernel
theorem dX12_layPairings_65 : decode cX12_layPairings 65 = .ok (.iload_n 2, 1) := by decide +kernel
theorem dX12_layPairings_66 : decode cX12_layPairings 66 = .ok (.imul, 1) := by decide +kernel
theorem dX12_layPairings_67 : decode cX12_layPairings 67 = .ok (.iadd, 1) := by decide +kernel
theorem dX12_layPairings_68 : decode cX12_layPairings 68 = .ok (.iload 5, 2) := by decide +kernel
theorem dX12_layPairings_70 : decode cX12_layPairings 70 = .ok (.iadd, 1) := by decide +kernel
theorem dX12_layPairings_71 : decode cX12_layPairings 71 = .ok (.iaload, 1) := by decide +kernel
theorem dX12_layPairings_72 : decode cX12_layPairings 72 = .ok (.iadd, 1) := by decide +kernel
theorem dX12_layPairings_73 : decode cX12_layPairings 73 = .ok (.invokevirtual 303, 3) := by decide +kernel
theorem dX12_layPairings_76 : decode cX12_layPairings 76 = .ok (.iinc 5 1, 3) := by decide +kernel
theorem dX12_layPairings_79 : decode cX12_layPairings 79 = .ok (.goto (-60), 3) := by decide +kernel
theorem dX12_layPairings_82 : decode cX12_layPairings 82 = .ok (.return_, 1) := by decide +kernel
theorem dX12_laySubsets_0 : decode cX12_laySubsets 0 = .ok (.aload_n 0, 1) := by decide +kernel
theorem dX12_laySubsets_1 : decode cX12_laySubsets 1 = .ok (.iload_n 3, 1) := by decide +kernel
theorem dX12_laySubsets_2 : decode cX12_laySubsets 2 = .ok (.iload 4, 2) := by decide +kernel
theorem dX12_laySubsets_4 : decode cX12_laySubsets 4 = .ok (.invokevirtual 279, 3) := by decide +kernel
theorem dX12_laySubsets_7 : decode cX12_laySubsets 7 = .ok (.aload_n 1, 1) := by decide +kernel
theorem dX12_laySubsets_8 : decode cX12_laySubsets 8 = .ok (.bipush 105, 2) := by decide +kernel
theorem dX12_laySubsets_10 : decode cX12_laySubsets 10 = .ok (.iaload, 1) := by decide +kernel
theorem dX12_laySubsets_11 : decode cX12_laySubsets 11 = .ok (.istore 5, 2) := by decide +kernel
theorem dX12_laySubsets_13 : decode cX12_laySubsets 13 = .ok (.iload_n 2, 1) := by decide +kernel
theorem dX12_laySubsets_14 : decode cX12_laySubsets 14 = .ok (.istore 6, 2) := by decide +kernel
theorem dX12_laySubsets_16 : decode cX12_laySubsets 16 = .ok (.iload 6, 2) := by decide +kernel
theorem dX12_laySubsets_18 : decode cX12_laySubsets 18 = .ok (.aload_n 1, 1) := by decide +kernel
theorem dX12_laySubsets_19 : decode cX12_laySubsets 19 = .ok (.bipush 24, 2) := by decide +kernel
theorem dX12_laySubsets_21 : decode cX12_laySubsets 21 = .ok (.iload 5, 2) := by decide +kernel
theorem dX12_laySubsets_23 : decode cX12_laySubsets 23 = .ok (.iadd, 1) := by decide +kernel
theorem dX12_laySubsets_24 : decode cX12_laySubsets 24 = .ok (.iaload, 1) := by decide +kernel
theorem dX12_laySubsets_25 : decode cX12_laySubsets 25 = .ok (.if_icmp .ge 42, 3) := by decide +kernel
theorem dX12_laySubsets_28 : decode cX12_laySubsets 28 = .ok (.aload_n 0, 1) := by decide +kernel
theorem dX12_laySubsets_29 : decode cX12_laySubsets 29 = .ok (.getfield 60, 3) := by decide +kernel
theorem dX12_laySubsets_32 : decode cX12_laySubsets 32 = .ok (.iload_n 3, 1) := by decide +kernel
theorem dX12_laySubsets_33 : decode cX12_laySubsets 33 = .ok (.iload 6, 2) := by decide +kernel
theorem dX12_laySubsets_35 : decode cX12_laySubsets 35 = .ok (.iastore, 1) := by decide +kernel
theorem dX12_laySubsets_36 : decode cX12_laySubsets 36 = .ok (.aload_n 0, 1) := by decide +kernel
theorem dX12_laySubsets_37 : decode cX12_laySubsets 37 = .ok (.aload_n 1, 1) := by decide +kernel
theorem dX12_laySubsets_38 : decode cX12_laySubsets 38 = .ok (.iload 6, 2) := by decide +kernel
theorem dX12_laySubsets_40 : decode cX12_laySubsets 40 = .ok (.iconst 1, 1) := by decide +kernel
theorem dX12_laySubsets_41 : decode cX12_laySubsets 41 = .ok (.iadd, 1) := by decide +kernel
theorem dX12_laySubsets_42 : decode cX12_laySubsets 42 = .ok (.iload_n 3, 1) := by decide +kernel
theorem dX12_laySubsets_43 : decode cX12_laySubsets 43 = .ok (.iconst 1, 1) := by decide +kernel
theorem dX12_laySubsets_44 : decode cX12_laySubsets 44 = .ok (.iadd, 1) := by decide +kernel
theorem dX12_laySubsets_45 : decode cX12_laySubsets 45 = .ok (.iload 4, 2) := by decide +kernel
theorem dX12_laySubsets_47 : decode cX12_laySubsets 47 = .ok (.aload_n 1, 1) := by decide +kernel
theorem dX12_laySubsets_48 : decode cX12_laySubsets 48 = .ok (.bipush 6, 2) := by decide +kernel
theorem dX12_laySubsets_50 : decode cX12_laySubsets 50 = .ok (.iload 5, 2) := by decide +kernel
theorem dX12_laySubsets_52 : decode cX12_laySubsets 52 = .ok (.imul, 1) := by decide +kernel
theorem dX12_laySubsets_53 : decode cX12_laySubsets 53 = .ok (.iload 6, 2) := by decide +kernel
theorem dX12_laySubsets_55 : decode cX12_laySubsets 55 = .ok (.iadd, 1) := by decide +kernel
theorem dX12_laySubsets_56 : decode cX12_laySubsets 56 = .ok (.iaload, 1) := by decide +kernel
theorem dX12_laySubsets_57 : decode cX12_laySubsets 57 = .ok (.iadd, 1) := by decide +kernel
theorem dX12_laySubsets_58 : decode cX12_laySubsets 58 = .ok (.invokevirtual 306, 3) := by decide +kernel
theorem dX12_laySubsets_61 : decode cX12_laySubsets 61 = .ok (.iinc 6 1, 3) := by decide +kernel
theorem dX12_laySubsets_64 : decode cX12_laySubsets 64 = .ok (.goto (-48), 3) := by decide +kernel
theorem dX12_laySubsets_67 : decode cX12_laySubsets 67 = .ok (.return_, 1) := by decide +kernel
theorem dX12_layRoutes_0 : decode cX12_layRoutes 0 = .ok (.aload_n 0, 1) := by decide +kernel
theorem dX12_layRoutes_1 : decode cX12_layRoutes 1 = .ok (.getfield 60, 3) := by decide +kernel
theorem dX12_layRoutes_4 : decode cX12_layRoutes 4 = .ok (.iload_n 3, 1) := by decide +kernel
theorem dX12_layRoutes_5 : decode cX12_layRoutes 5 = .ok (.iload_n 2, 1) := by decide +kernel
theorem dX12_layRoutes_6 : decode cX12_layRoutes 6 = .ok (.iastore, 1) := by decide +kernel
theorem dX12_layRoutes_7 : decode cX12_layRoutes 7 = .ok (.iload_n 2, 1) := by decide +kernel
theorem dX12_layRoutes_8 : decode cX12_layRoutes 8 = .ok (.aload_n 1, 1) := by decide +kernel
theorem dX12_layRoutes_9 : decode cX12_layRoutes 9 = .ok (.bipush 104, 2) := by decide +kernel
theorem dX12_layRoutes_11 : decode cX12_layRoutes 11 = .ok (.iaload, 1) := by decide +kernel
theorem dX12_layRoutes_12 : decode cX12_layRoutes 12 = .ok (.if_icmp .ne 13, 3) := by decide +kernel
theorem dX12_layRoutes_15 : decode cX12_layRoutes 15 = .ok (.aload_n 0, 1) := by decide +kernel
theorem dX12_layRoutes_16 : decode cX12_layRoutes 16 = .ok (.iload_n 3, 1) := by decide +kernel
theorem dX12_layRoutes_17 : decode cX12_layRoutes 17 = .ok (.iconst 1, 1) := by decide +kernel
theorem dX12_layRoutes_18 : decode cX12_layRoutes 18 = .ok (.iadd, 1) := by decide +kernel
theorem dX12_layRoutes_19 : decode cX12_layRoutes 19 = .ok (.iload 5, 2) := by decide +kernel
theorem dX12_layRoutes_21 : decode cX12_layRoutes 21 = .ok (.invokevirtual 279, 3) := by decide +kernel
theorem dX12_layRoutes_24 : decode cX12_layRoutes 24 = .ok (.return_, 1) := by decide +kernel
theorem dX12_layRoutes_25 : decode cX12_layRoutes 25 = .ok (.iconst 0, 1) := by decide +kernel
theorem dX12_layRoutes_26 : decode cX12_layRoutes 26 = .ok (.istore 6, 2) := by decide +kernel
theorem dX12_layRoutes_28 : decode cX12_layRoutes 28 = .ok (.iload 6, 2) := by decide +kernel
theorem dX12_layRoutes_30 : decode cX12_layRoutes 30 = .ok (.bipush 7, 2) := by decide +kernel
theorem dX12_layRoutes_32 : decode cX12_layRoutes 32 = .ok (.if_icmp .ge 55, 3) := by decide +kernel
theorem dX12_layRoutes_35 : decode cX12_layRoutes 35 = .ok (.aload_n 1, 1) := by decide +kernel
theorem dX12_layRoutes_36 : decode cX12_layRoutes 36 = .ok (.iload_n 2, 1) := by decide +kernel
theorem dX12_layRoutes_37 : decode cX12_layRoutes 37 = .ok (.iload 6, 2) := by decide +kernel
theorem dX12_layRoutes_39 : decode cX12_layRoutes 39 = .ok (.invokestatic 105, 3) := by decide +kernel
theorem dX12_layRoutes_42 : decode cX12_layRoutes 42 = .ok (.istore 7, 2) := by decide +kernel
theorem dX12_layRoutes_44 : decode cX12_layRoutes 44 = .ok (.iload 7, 2) := by decide +kernel
theorem dX12_layRoutes_46 : decode cX12_layRoutes 46 = .ok (.ifCond .le 35, 3) := by decide +kernel
theorem dX12_layRoutes_49 : decode cX12_layRoutes 49 = .ok (.iload 4, 2) := by decide +kernel
theorem dX12_layRoutes_51 : decode cX12_layRoutes 51 = .ok (.iload 6, 2) := by decide +kernel
theorem dX12_layRoutes_53 : decode cX12_layRoutes 53 = .ok (.invokestatic 300, 3) := by decide +kernel
theorem dX12_layRoutes_56 : decode cX12_layRoutes 56 = .ok (.ifCond .ne 25, 3) := by decide +kernel
theorem dX12_layRoutes_59 : decode cX12_layRoutes 59 = .ok (.aload_n 0, 1) := by decide +kernel
theorem dX12_layRoutes_60 : decode cX12_layRoutes 60 = .ok (.aload_n 1, 1) := by decide +kernel
theorem dX12_layRoutes_61 : decode cX12_layRoutes 61 = .ok (.iload 6, 2) := by decide +kernel
theorem dX12_layRoutes_63 : decode cX12_layRoutes 63 = .ok (.iload_n 3, 1) := by decide +kernel
theorem dX12_layRoutes_64 : decode cX12_layRoutes 64 = .ok (.iconst 1, 1) := by decide +kernel
theorem dX12_layRoutes_65 : decode cX12_layRoutes 65 = .ok (.iadd, 1) := by decide +kernel
theorem dX12_layRoutes_66 : decode cX12_layRoutes 66 = .ok (.iload 4, 2) := by decide +kernel
theorem dX12_layRoutes_68 : decode cX12_layRoutes 68 = .ok (.iconst 1, 1) := by decide +kernel
theorem dX12_layRoutes_69 : decode cX12_layRoutes 69 = .ok (.iload 6, 2) := by decide +kernel
theorem dX12_layRoutes_71 : decode cX12_layRoutes 71 = .ok (.ishl, 1) := by decide +kernel
theorem dX12_layRoutes_72 : decode cX12_layRoutes 72 = .ok (.ior, 1) := by decide +kernel
theorem dX12_layRoutes_73 : decode cX12_layRoutes 73 = .ok (.iload 5, 2) := by decide +kernel
theorem dX12_layRoutes_75 : decode cX12_layRoutes 75 = .ok (.iload 7, 2) := by decide +kernel
theorem dX12_layRoutes_77 : decode cX12_layRoutes 77 = .ok (.iadd, 1) := by decide +kernel
theorem dX12_layRoutes_78 : decode cX12_layRoutes 78 = .ok (.invokevirtual 309, 3) := by decide +kernel
theorem dX12_layRoutes_81 : decode cX12_layRoutes 81 = .ok (.iinc 6 1, 3) := by decide +kernel
theorem dX12_layRoutes_84 : decode cX12_layRoutes 84 = .ok (.goto (-56), 3) := by decide +kernel
theorem dX12_layRoutes_87 : decode cX12_layRoutes 87 = .ok (.return_, 1) := by decide +kernel
theorem dX12_layAll_0 : decode cX12_layAll 0 = .ok (.aload_n 0, 1) := by decide +kernel
theorem dX12_layAll_1 : decode cX12_layAll 1 = .ok (.iconst 0, 1) := by decide +kernel
theorem dX12_layAll_2 : decode cX12_layAll 2 = .ok (.putfield 276, 3) := by decide +kernel
theorem dX12_layAll_5 : decode cX12_layAll 5 = .ok (.iload_n 2, 1) := by decide +kernel
theorem dX12_layAll_6 : decode cX12_layAll 6 = .ok (.tableswitch 91 0 3 #[30, 40, 69, 80], 30) := by decide +kernel
theorem dX12_layAll_36 : decode cX12_layAll 36 = .ok (.aload_n 0, 1) := by decide +kernel
theorem dX12_layAll_37 : decode cX12_layAll 37 = .ok (.aload_n 1, 1) := by decide +kernel
theorem dX12_layAll_38 : decode cX12_layAll 38 = .ok (.iconst 0, 1) := by decide +kernel
theorem dX12_layAll_39 : decode cX12_layAll 39 = .ok (.iconst 0, 1) := by decide +kernel
theorem dX12_layAll_40 : decode cX12_layAll 40 = .ok (.invokevirtual 286, 3) := by decide +kernel
theorem dX12_layAll_43 : decode cX12_layAll 43 = .ok (.goto 71, 3) := by decide +kernel
theorem dX12_layAll_46 : decode cX12_layAll 46 = .ok (.aload_n 1, 1) := by decide +kernel
theorem dX12_layAll_47 : decode cX12_layAll 47 = .ok (.invokestatic 312, 3) := by decide +kernel
theorem dX12_layAll_50 : decode cX12_layAll 50 = .ok (.invokestatic 315, 3) := by decide +kernel
theorem dX12_layAll_53 : decode cX12_layAll 53 = .ok (.istore_n 3, 1) := by decide +kernel
theorem dX12_layAll_54 : decode cX12_layAll 54 = .ok (.aload_n 0, 1) := by decide +kernel
theorem dX12_layAll_55 : decode cX12_layAll 55 = .ok (.aload_n 1, 1) := by decide +kernel
theorem dX12_layAll_56 : decode cX12_layAll 56 = .ok (.iconst 0, 1) := by decide +kernel
theorem dX12_layAll_57 : decode cX12_layAll 57 = .ok (.iconst 0, 1) := by decide +kernel
theorem dX12_layAll_58 : decode cX12_layAll 58 = .ok (.iconst 0, 1) := by decide +kernel
theorem dX12_layAll_59 : decode cX12_layAll 59 = .ok (.iload_n 3, 1) := by decide +kernel
theorem dX12_layAll_60 : decode cX12_layAll 60 = .ok (.iconst 1, 1) := by decide +kernel
theorem dX12_layAll_61 : decode cX12_layAll 61 = .ok (.isub, 1) := by decide +kernel
theorem dX12_layAll_62 : decode cX12_layAll 62 = .ok (.invokestatic 204, 3) := by decide +kernel
theorem dX12_layAll_65 : decode cX12_layAll 65 = .ok (.aload_n 1, 1) := by decide +kernel
theorem dX12_layAll_66 : decode cX12_layAll 66 = .ok (.invokestatic 216, 3) := by decide +kernel
theorem dX12_layAll_69 : decode cX12_layAll 69 = .ok (.invokevirtual 296, 3) := by decide +kernel
theorem dX12_layAll_72 : decode cX12_layAll 72 = .ok (.goto 42, 3) := by decide +kernel
theorem dX12_layAll_75 : decode cX12_layAll 75 = .ok (.aload_n 0, 1) := by decide +kernel
theorem dX12_layAll_76 : decode cX12_layAll 76 = .ok (.aload_n 1, 1) := by decide +kernel
theorem dX12_layAll_77 : decode cX12_layAll 77 = .ok (.iconst 0, 1) := by decide +kernel
theorem dX12_layAll_78 : decode cX12_layAll 78 = .ok (.iconst 0, 1) := by decide +kernel
theorem dX12_layAll_79 : decode cX12_layAll 79 = .ok (.iconst 0, 1) := by decide +kernel
theorem dX12_layAll_80 : decode cX12_layAll 80 = .ok (.invokevirtual 303, 3) := by decide +kernel
theorem dX12_layAll_83 : decode cX12_layAll 83 = .ok (.goto 31, 3) := by decide +kernel
theorem dX12_layAll_86 : decode cX12_layAll 86 = .ok (.aload_n 0, 1) := by decide +kernel
theorem dX12_layAll_87 : decode cX12_layAll 87 = .ok (.aload_n 1, 1) := by decide +kernel
theorem dX12_layAll_88 : decode cX12_layAll 88 = .ok (.iconst 0, 1) := by decide +kernel
theorem dX12_layAll_89 : decode cX12_layAll 89 = .ok (.iconst 0, 1) := by decide +kernel
theorem dX12_layAll_90 : decode cX12_layAll 90 = .ok (.iconst 0, 1) := by decide +kernel
theorem dX12_layAll_91 : decode cX12_layAll 91 = .ok (.invokevirtual 306, 3) := by decide +kernel
theorem dX12_layAll_94 : decode cX12_layAll 94 = .ok (.goto 20, 3) := by decide +kernel
theorem dX12_layAll_97 : decode cX12_layAll 97 = .ok (.aload_n 0, 1) := by decide +kernel
theorem dX12_layAll_98 : decode cX12_layAll 98 = .ok (.aload_n 1, 1) := by decide +kernel
theorem dX12_layAll_99 : decode cX12_layAll 99 = .ok (.aload_n 1, 1) := by decide +kernel
theorem dX12_layAll_100 : decode cX12_layAll 100 = .ok (.bipush 103, 2) := by decide +kernel
theorem dX12_layAll_102 : decode cX12_layAll 102 = .ok (.iaload, 1) := by decide +kernel
theorem dX12_layAll_103 : decode cX12_layAll 103 = .ok (.iconst 0, 1) := by decide +kernel
theorem dX12_layAll_104 : decode cX12_layAll 104 = .ok (.iconst 1, 1) := by decide +kernel
theorem dX12_layAll_105 : decode cX12_layAll 105 = .ok (.aload_n 1, 1) := by decide +kernel
theorem dX12_layAll_106 : decode cX12_layAll 106 = .ok (.bipush 103, 2) := by decide +kernel
theorem dX12_layAll_108 : decode cX12_layAll 108 = .ok (.iaload, 1) := by decide +kernel
theorem dX12_layAll_109 : decode cX12_layAll 109 = .ok (.ishl, 1) := by decide +kernel
theorem dX12_layAll_110 : decode cX12_layAll 110 = .ok (.iconst 0, 1) := by decide +kernel
theorem dX12_layAll_111 : decode cX12_layAll 111 = .ok (.invokevirtual 309, 3) := by decide +kernel
theorem dX12_layAll_114 : decode cX12_layAll 114 = .ok (.iconst 0, 1) := by decide +kernel
theorem dX12_layAll_115 : decode cX12_layAll 115 = .ok (.istore_n 3, 1) := by decide +kernel
theorem dX12_layAll_116 : decode cX12_layAll 116 = .ok (.iload_n 3, 1) := by decide +kernel
theorem dX12_layAll_117 : decode cX12_layAll 117 = .ok (.aload_n 0, 1) := by decide +kernel
theorem dX12_layAll_118 : decode cX12_layAll 118 = .ok (.getfield 276, 3) := by decide +kernel
theorem dX12_layAll_121 : decode cX12_layAll 121 = .ok (.if_icmp .ge 16, 3) := by decide +kernel
theorem dX12_layAll_124 : decode cX12_layAll 124 = .ok (.aload_n 0, 1) := by decide +kernel
theorem dX12_layAll_125 : decode cX12_layAll 125 = .ok (.getfield 54, 3) := by decide +kernel
theorem dX12_layAll_128 : decode cX12_layAll 128 = .ok (.iload_n 3, 1) := by decide +kernel
theorem dX12_layAll_129 : decode cX12_layAll 129 = .ok (.iload_n 3, 1) := by decide +kernel
theorem dX12_layAll_130 : decode cX12_layAll 130 = .ok (.iastore, 1) := by decide +kernel
theorem dX12_layAll_131 : decode cX12_layAll 131 = .ok (.iinc 3 1, 3) := by decide +kernel
theorem dX12_layAll_134 : decode cX12_layAll 134 = .ok (.goto (-18), 3) := by decide +kernel
theorem dX12_layAll_137 : decode cX12_layAll 137 = .ok (.iconst 1, 1) := by decide +kernel
theorem dX12_layAll_138 : decode cX12_layAll 138 = .ok (.istore_n 3, 1) := by decide +kernel
theorem dX12_layAll_139 : decode cX12_layAll 139 = .ok (.iload_n 3, 1) := by decide +kernel
theorem dX12_layAll_140 : decode cX12_layAll 140 = .ok (.aload_n 0, 1) := by decide +kernel
theorem dX12_layAll_141 : decode cX12_layAll 141 = .ok (.getfield 276, 3) := by decide +kernel
theorem dX12_layAll_144 : decode cX12_layAll 144 = .ok (.if_icmp .ge 63, 3) := by decide +kernel
theorem dX12_layAll_147 : decode cX12_layAll 147 = .ok (.iconst 0, 1) := by decide +kernel
theorem dX12_layAll_148 : decode cX12_layAll 148 = .ok (.istore 4, 2) := by decide +kernel
theorem dX12_layAll_150 : decode cX12_layAll 150 = .ok (.iload 4, 2) := by decide +kernel
theorem dX12_layAll_152 : decode cX12_layAll 152 = .ok (.aload_n 0, 1) := by decide +kernel
theorem dX12_layAll_153 : decode cX12_layAll 153 = .ok (.getfield 276, 3) := by decide +kernel
theorem dX12_layAll_156 : decode cX12_layAll 156 = .ok (.if_icmp .ge 44, 3) := by decide +kernel
theorem dX12_layAll_159 : decode cX12_layAll 159 = .ok (.aload_n 0, 1) := by decide +kernel
theorem dX12_layAll_160 : decode cX12_layAll 160 = .ok (.iload 4, 2) := by decide +kernel
theorem dX12_layAll_162 : decode cX12_layAll 162 = .ok (.aload_n 0, 1) := by decide +kernel
theorem dX12_layAll_163 : decode cX12_layAll 163 = .ok (.getfield 276, 3) := by decide +kernel
theorem dX12_layAll_166 : decode cX12_layAll 166 = .ok (.iload 4, 2) := by decide +kernel
theorem dX12_layAll_168 : decode cX12_layAll 168 = .ok (.iload_n 3, 1) := by decide +kernel
theorem dX12_layAll_169 : decode cX12_layAll 169 = .ok (.iadd, 1) := by decide +kernel
theorem dX12_layAll_170 : decode cX12_layAll 170 = .ok (.invokestatic 210, 3) := by decide +kernel
theorem dX12_layAll_173 : decode cX12_layAll 173 = .ok (.aload_n 0, 1) := by decide +kernel
theorem dX12_layAll_174 : decode cX12_layAll 174 = .ok (.getfield 276, 3) := by decide +kernel
theorem dX12_layAll_177 : decode cX12_layAll 177 = .ok (.iload 4, 2) := by decide +kernel
theorem dX12_layAll_179 : decode cX12_layAll 179 = .ok (.iconst 2, 1) := by decide +kernel
theorem dX12_layAll_180 : decode cX12_layAll 180 = .ok (.iload_n 3, 1) := by decide +kernel
theorem dX12_layAll_181 : decode cX12_layAll 181 = .ok (.imul, 1) := by decide +kernel
theorem dX12_layAll_182 : decode cX12_layAll 182 = .ok (.iadd, 1) := by decide +kernel
theorem dX12_layAll_183 : decode cX12_layAll 183 = .ok (.invokestatic 210, 3) := by decide +kernel
theorem dX12_layAll_186 : decode cX12_layAll 186 = .ok (.invokevirtual 320, 3) := by decide +kernel
theorem dX12_layAll_189 : decode cX12_layAll 189 = .ok (.iload 4, 2) := by decide +kernel
theorem dX12_layAll_191 : decode cX12_layAll 191 = .ok (.iconst 2, 1) := by decide +kernel
theorem dX12_layAll_192 : decode cX12_layAll 192 = .ok (.iload_n 3, 1) := by decide +kernel
theorem dX12_layAll_193 : decode cX12_layAll 193 = .ok (.imul, 1) := by decide +kernel
theorem dX12_layAll_194 : decode cX12_layAll 194 = .ok (.iadd, 1) := by decide +kernel
theorem dX12_layAll_195 : decode cX12_layAll 195 = .ok (.istore 4, 2) := by decide +kernel
theorem dX12_layAll_197 : decode cX12_layAll 197 = .ok (.goto (-47), 3) := by decide +kernel
theorem dX12_layAll_200 : decode cX12_layAll 200 = .ok (.iload_n 3, 1) := by decide +kernel
theorem dX12_layAll_201 : decode cX12_layAll 201 = .ok (.iconst 2, 1) := by decide +kernel
theorem dX12_layAll_202 : decode cX12_layAll 202 = .ok (.imul, 1) := by decide +kernel
theorem dX12_layAll_203 : decode cX12_layAll 203 = .ok (.istore_n 3, 1) := by decide +kernel
theorem dX12_layAll_204 : decode cX12_layAll 204 = .ok (.goto (-65), 3) := by decide +kernel
theorem dX12_layAll_207 : decode cX12_layAll 207 = .ok (.aload_n 0, 1) := by decide +kernel
theorem dX12_layAll_208 : decode cX12_layAll 208 = .ok (.getfield 276, 3) := by decide +kernel
theorem dX12_layAll_211 : decode cX12_layAll 211 = .ok (.ireturn, 1) := by decide +kernel
theorem dX12_merge_0 : decode cX12_merge 0 = .ok (.iload_n 1, 1) := by decide +kernel
theorem dX12_merge_1 : decode cX12_merge 1 = .ok (.istore 4, 2) := by decide +kernel
theorem dX12_merge_3 : decode cX12_merge 3 = .ok (.iload_n 2, 1) := by decide +kernel
theorem dX12_merge_4 : decode cX12_merge 4 = .ok (.istore 5, 2) := by decide +kernel
theorem dX12_merge_6 : decode cX12_merge 6 = .ok (.iload_n 1, 1) := by decide +kernel
theorem dX12_merge_7 : decode cX12_merge 7 = .ok (.istore 6, 2) := by decide +kernel
theorem dX12_merge_9 : decode cX12_merge 9 = .ok (.iload 6, 2) := by decide +kernel
theorem dX12_merge_11 : decode cX12_merge 11 = .ok (.iload_n 3, 1) := by decide +kernel
theorem dX12_merge_12 : decode cX12_merge 12 = .ok (.if_icmp .ge 93, 3) := by decide +kernel
theorem dX12_merge_15 : decode cX12_merge 15 = .ok (.iload 5, 2) := by decide +kernel
theorem dX12_merge_17 : decode cX12_merge 17 = .ok (.iload_n 3, 1) := by decide +kernel
theorem dX12_merge_18 : decode cX12_merge 18 = .ok (.if_icmp .eq 36, 3) := by decide +kernel
theorem dX12_merge_21 : decode cX12_merge 21 = .ok (.iload 4, 2) := by decide +kernel
theorem dX12_merge_23 : decode cX12_merge 23 = .ok (.iload_n 2, 1) := by decide +kernel
theorem dX12_merge_24 : decode cX12_merge 24 = .ok (.if_icmp .ge 34, 3) := by decide +kernel
theorem dX12_merge_27 : decode cX12_merge 27 = .ok (.aload_n 0, 1) := by decide +kernel
theorem dX12_merge_28 : decode cX12_merge 28 = .ok (.getfield 51, 3) := by decide +kernel
theorem dX12_merge_31 : decode cX12_merge 31 = .ok (.aload_n 0, 1) := by decide +kernel
theorem dX12_merge_32 : decode cX12_merge 32 = .ok (.getfield 54, 3) := by decide +kernel
theorem dX12_merge_35 : decode cX12_merge 35 = .ok (.iload 4, 2) := by decide +kernel
theorem dX12_merge_37 : decode cX12_merge 37 = .ok (.iaload, 1) := by decide +kernel
theorem dX12_merge_38 : decode cX12_merge 38 = .ok (.iaload, 1) := by decide +kernel
theorem dX12_merge_39 : decode cX12_merge 39 = .ok (.aload_n 0, 1) := by decide +kernel
theorem dX12_merge_40 : decode cX12_merge 40 = .ok (.getfield 51, 3) := by decide +kernel
theorem dX12_merge_43 : decode cX12_merge 43 = .ok (.aload_n 0, 1) := by decide +kernel
theorem dX12_merge_44 : decode cX12_merge 44 = .ok (.getfield 54, 3) := by decide +kernel
theorem dX12_merge_47 : decode cX12_merge 47 = .ok (.iload 5, 2) := by decide +kernel
theorem dX12_merge_49 : decode cX12_merge 49 = .ok (.iaload, 1) := by decide +kernel
theorem dX12_merge_50 : decode cX12_merge 50 = .ok (.iaload, 1) := by decide +kernel
theorem dX12_merge_51 : decode cX12_merge 51 = .ok (.if_icmp .gt 7, 3) := by decide +kernel
theorem dX12_merge_54 : decode cX12_merge 54 = .ok (.iconst 1, 1) := by decide +kernel
theorem dX12_merge_55 : decode cX12_merge 55 = .ok (.goto 4, 3) := by decide +kernel
theorem dX12_merge_58 : decode cX12_merge 58 = .ok (.iconst 0, 1) := by decide +kernel
theorem dX12_merge_59 : decode cX12_merge 59 = .ok (.istore 7, 2) := by decide +kernel
theorem dX12_merge_61 : decode cX12_merge 61 = .ok (.aload_n 0, 1) := by decide +kernel
theorem dX12_merge_62 : decode cX12_merge 62 = .ok (.getfield 57, 3) := by decide +kernel
theorem dX12_merge_65 : decode cX12_merge 65 = .ok (.iload 6, 2) := by decide +kernel
theorem dX12_merge_67 : decode cX12_merge 67 = .ok (.aload_n 0, 1) := by decide +kernel
theorem dX12_merge_68 : decode cX12_merge 68 = .ok (.getfield 54, 3) := by decide +kernel
theorem dX12_merge_71 : decode cX12_merge 71 = .ok (.iload 7, 2) := by decide +kernel
theorem dX12_merge_73 : decode cX12_merge 73 = .ok (.ifCond .eq 8, 3) := by decide +kernel
theorem dX12_merge_76 : decode cX12_merge 76 = .ok (.iload 4, 2) := by decide +kernel
theorem dX12_merge_78 : decode cX12_merge 78 = .ok (.goto 5, 3) := by decide +kernel
theorem dX12_merge_81 : decode cX12_merge 81 = .ok (.iload 5, 2) := by decide +kernel
theorem dX12_merge_83 : decode cX12_merge 83 = .ok (.iaload, 1) := by decide +kernel
theorem dX12_merge_84 : decode cX12_merge 84 = .ok (.iastore, 1) := by decide +kernel
theorem dX12_merge_85 : decode cX12_merge 85 = .ok (.iload 7, 2) := by decide +kernel
theorem dX12_merge_87 : decode cX12_merge 87 = .ok (.ifCond .eq 9, 3) := by decide +kernel
theorem dX12_merge_90 : decode cX12_merge 90 = .ok (.iinc 4 1, 3) := by decide +kernel
theorem dX12_merge_93 : decode cX12_merge 93 = .ok (.goto 6, 3) := by decide +kernel
theorem dX12_merge_96 : decode cX12_merge 96 = .ok (.iinc 5 1, 3) := by decide +kernel
theorem dX12_merge_99 : decode cX12_merge 99 = .ok (.iinc 6 1, 3) := by decide +kernel
theorem dX12_merge_102 : decode cX12_merge 102 = .ok (.goto (-93), 3) := by decide +kernel
theorem dX12_merge_105 : decode cX12_merge 105 = .ok (.iload_n 1, 1) := by decide +kernel
theorem dX12_merge_106 : decode cX12_merge 106 = .ok (.istore 6, 2) := by decide +kernel
theorem dX12_merge_108 : decode cX12_merge 108 = .ok (.iload 6, 2) := by decide +kernel
theorem dX12_merge_110 : decode cX12_merge 110 = .ok (.iload_n 3, 1) := by decide +kernel
theorem dX12_merge_111 : decode cX12_merge 111 = .ok (.if_icmp .ge 23, 3) := by decide +kernel
theorem dX12_merge_114 : decode cX12_merge 114 = .ok (.aload_n 0, 1) := by decide +kernel
theorem dX12_merge_115 : decode cX12_merge 115 = .ok (.getfield 54, 3) := by decide +kernel
theorem dX12_merge_118 : decode cX12_merge 118 = .ok (.iload 6, 2) := by decide +kernel
theorem dX12_merge_120 : decode cX12_merge 120 = .ok (.aload_n 0, 1) := by decide +kernel
theorem dX12_merge_121 : decode cX12_merge 121 = .ok (.getfield 57, 3) := by decide +kernel
theorem dX12_merge_124 : decode cX12_merge 124 = .ok (.iload 6, 2) := by decide +kernel
theorem dX12_merge_126 : decode cX12_merge 126 = .ok (.iaload, 1) := by decide +kernel
theorem dX12_merge_127 : decode cX12_merge 127 = .ok (.iastore, 1) := by decide +kernel
theorem dX12_merge_128 : decode cX12_merge 128 = .ok (.iinc 6 1, 3) := by decide +kernel
theorem dX12_merge_131 : decode cX12_merge 131 = .ok (.goto (-23), 3) := by decide +kernel
theorem dX12_merge_134 : decode cX12_merge 134 = .ok (.return_, 1) := by decide +kernel
theorem dX12_tellItem_0 : decode cX12_tellItem 0 = .ok (.aload_n 0, 1) := by decide +kernel
theorem dX12_tellItem_1 : decode cX12_tellItem 1 = .ok (.getfield 54, 3) := by decide +kernel
theorem dX12_tellItem_4 : decode cX12_tellItem 4 = .ok (.iload_n 1, 1) := by decide +kernel
theorem dX12_tellItem_5 : decode cX12_tellItem 5 = .ok (.iconst 1, 1) := by decide +kernel
theorem dX12_tellItem_6 : decode cX12_tellItem 6 = .ok (.isub, 1) := by decide +kernel
theorem dX12_tellItem_7 : decode cX12_tellItem 7 = .ok (.iaload, 1) := by decide +kernel
theorem dX12_tellItem_8 : decode cX12_tellItem 8 = .ok (.istore_n 2, 1) := by decide +kernel
theorem dX12_tellItem_9 : decode cX12_tellItem 9 = .ok (.aload_n 0, 1) := by decide +kernel
theorem dX12_tellItem_10 : decode cX12_tellItem 10 = .ok (.iconst 0, 1) := by decide +kernel
theorem dX12_tellItem_11 : decode cX12_tellItem 11 = .ok (.putfield 98, 3) := by decide +kernel
theorem dX12_tellItem_14 : decode cX12_tellItem 14 = .ok (.aload_n 0, 1) := by decide +kernel
theorem dX12_tellItem_15 : decode cX12_tellItem 15 = .ok (.aload_n 0, 1) := by decide +kernel
theorem dX12_tellItem_16 : decode cX12_tellItem 16 = .ok (.getfield 51, 3) := by decide +kernel
theorem dX12_tellItem_19 : decode cX12_tellItem 19 = .ok (.iload_n 2, 1) := by decide +kernel
theorem dX12_tellItem_20 : decode cX12_tellItem 20 = .ok (.iaload, 1) := by decide +kernel
