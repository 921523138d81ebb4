theorem dX0_init_0 : decode cX0_init 0 = .ok (.aload_n 0, 1) := by decide +kernel
theorem dX0_init_1 : decode cX0_init 1 = .ok (.invokespecial 3, 3) := by decide +kernel
theorem dX0_init_4 : decode cX0_init 4 = .ok (.return_, 1) := by decide +kernel
theorem dX0_stopped_0 : decode cX0_stopped 0 = .ok (.aload_n 0, 1) := by decide +kernel
theorem dX0_stopped_1 : decode cX0_stopped 1 = .ok (.getfield 9, 3) := by decide +kernel
theorem dX0_stopped_4 : decode cX0_stopped 4 = .ok (.ireturn, 1) := by decide +kernel
theorem dX0_fault_0 : decode cX0_fault 0 = .ok (.aload_n 0, 1) := by decide +kernel
theorem dX0_fault_1 : decode cX0_fault 1 = .ok (.invokevirtual 15, 3) := by decide +kernel
theorem dX0_fault_4 : decode cX0_fault 4 = .ok (.bipush 60, 2) := by decide +kernel
theorem dX0_fault_6 : decode cX0_fault 6 = .ok (.invokestatic 21, 3) := by decide +kernel
theorem dX0_fault_9 : decode cX0_fault 9 = .ok (.istore_n 1, 1) := by decide +kernel
theorem dX0_fault_10 : decode cX0_fault 10 = .ok (.iconst 0, 1) := by decide +kernel
theorem dX0_fault_11 : decode cX0_fault 11 = .ok (.istore_n 2, 1) := by decide +kernel
theorem dX0_fault_12 : decode cX0_fault 12 = .ok (.iload_n 2, 1) := by decide +kernel
theorem dX0_fault_13 : decode cX0_fault 13 = .ok (.iload_n 1, 1) := by decide +kernel
theorem dX0_fault_14 : decode cX0_fault 14 = .ok (.if_icmp .ge 72, 3) := by decide +kernel
theorem dX0_fault_17 : decode cX0_fault 17 = .ok (.aload_n 0, 1) := by decide +kernel
theorem dX0_fault_18 : decode cX0_fault 18 = .ok (.iload_n 2, 1) := by decide +kernel
theorem dX0_fault_19 : decode cX0_fault 19 = .ok (.invokevirtual 27, 3) := by decide +kernel
theorem dX0_fault_22 : decode cX0_fault 22 = .ok (.invokestatic 31, 3) := by decide +kernel
theorem dX0_fault_25 : decode cX0_fault 25 = .ok (.astore_n 3, 1) := by decide +kernel
theorem dX0_fault_26 : decode cX0_fault 26 = .ok (.aload_n 3, 1) := by decide +kernel
theorem dX0_fault_27 : decode cX0_fault 27 = .ok (.invokevirtual 35, 3) := by decide +kernel
theorem dX0_fault_30 : decode cX0_fault 30 = .ok (.ifCond .eq 5, 3) := by decide +kernel
theorem dX0_fault_33 : decode cX0_fault 33 = .ok (.iload_n 2, 1) := by decide +kernel
theorem dX0_fault_34 : decode cX0_fault 34 = .ok (.ireturn, 1) := by decide +kernel
theorem dX0_fault_35 : decode cX0_fault 35 = .ok (.iinc 2 1, 3) := by decide +kernel
theorem dX0_fault_38 : decode cX0_fault 38 = .ok (.iconst 0, 1) := by decide +kernel
theorem dX0_fault_39 : decode cX0_fault 39 = .ok (.istore 4, 2) := by decide +kernel
theorem dX0_fault_41 : decode cX0_fault 41 = .ok (.iload 4, 2) := by decide +kernel
theorem dX0_fault_43 : decode cX0_fault 43 = .ok (.aload_n 3, 1) := by decide +kernel
theorem dX0_fault_44 : decode cX0_fault 44 = .ok (.invokevirtual 41, 3) := by decide +kernel
theorem dX0_fault_47 : decode cX0_fault 47 = .ok (.if_icmp .ge 36, 3) := by decide +kernel
theorem dX0_fault_50 : decode cX0_fault 50 = .ok (.iload_n 2, 1) := by decide +kernel
theorem dX0_fault_51 : decode cX0_fault 51 = .ok (.iload_n 1, 1) := by decide +kernel
theorem dX0_fault_52 : decode cX0_fault 52 = .ok (.if_icmp .ge 20, 3) := by decide +kernel
theorem dX0_fault_55 : decode cX0_fault 55 = .ok (.aload_n 0, 1) := by decide +kernel
theorem dX0_fault_56 : decode cX0_fault 56 = .ok (.iload_n 2, 1) := by decide +kernel
theorem dX0_fault_57 : decode cX0_fault 57 = .ok (.invokevirtual 27, 3) := by decide +kernel
theorem dX0_fault_60 : decode cX0_fault 60 = .ok (.aload_n 3, 1) := by decide +kernel
theorem dX0_fault_61 : decode cX0_fault 61 = .ok (.iload 4, 2) := by decide +kernel
theorem dX0_fault_63 : decode cX0_fault 63 = .ok (.invokevirtual 42, 3) := by decide +kernel
theorem dX0_fault_66 : decode cX0_fault 66 = .ok (.invokestatic 45, 3) := by decide +kernel
theorem dX0_fault_69 : decode cX0_fault 69 = .ok (.ifCond .ne 5, 3) := by decide +kernel
theorem dX0_fault_72 : decode cX0_fault 72 = .ok (.iload_n 2, 1) := by decide +kernel
theorem dX0_fault_73 : decode cX0_fault 73 = .ok (.ireturn, 1) := by decide +kernel
theorem dX0_fault_74 : decode cX0_fault 74 = .ok (.iinc 2 1, 3) := by decide +kernel
theorem dX0_fault_77 : decode cX0_fault 77 = .ok (.iinc 4 1, 3) := by decide +kernel
theorem dX0_fault_80 : decode cX0_fault 80 = .ok (.goto (-39), 3) := by decide +kernel
theorem dX0_fault_83 : decode cX0_fault 83 = .ok (.goto (-71), 3) := by decide +kernel
theorem dX0_fault_86 : decode cX0_fault 86 = .ok (.aload_n 0, 1) := by decide +kernel
theorem dX0_fault_87 : decode cX0_fault 87 = .ok (.invokevirtual 15, 3) := by decide +kernel
theorem dX0_fault_90 : decode cX0_fault 90 = .ok (.bipush 60, 2) := by decide +kernel
theorem dX0_fault_92 : decode cX0_fault 92 = .ok (.if_icmp .le 8, 3) := by decide +kernel
theorem dX0_fault_95 : decode cX0_fault 95 = .ok (.bipush 60, 2) := by decide +kernel
theorem dX0_fault_97 : decode cX0_fault 97 = .ok (.goto 4, 3) := by decide +kernel
theorem dX0_fault_100 : decode cX0_fault 100 = .ok (.iconst (-1), 1) := by decide +kernel
theorem dX0_fault_101 : decode cX0_fault 101 = .ok (.ireturn, 1) := by decide +kernel
theorem dX0_perform_0 : decode cX0_perform 0 = .ok (.aload_n 0, 1) := by decide +kernel
theorem dX0_perform_1 : decode cX0_perform 1 = .ok (.iconst 0, 1) := by decide +kernel
theorem dX0_perform_2 : decode cX0_perform 2 = .ok (.putfield 9, 3) := by decide +kernel
theorem dX0_perform_5 : decode cX0_perform 5 = .ok (.iconst 0, 1) := by decide +kernel
theorem dX0_perform_6 : decode cX0_perform 6 = .ok (.istore_n 3, 1) := by decide +kernel
theorem dX0_perform_7 : decode cX0_perform 7 = .ok (.iconst 0, 1) := by decide +kernel
theorem dX0_perform_8 : decode cX0_perform 8 = .ok (.istore 4, 2) := by decide +kernel
theorem dX0_perform_10 : decode cX0_perform 10 = .ok (.iload 4, 2) := by decide +kernel
theorem dX0_perform_12 : decode cX0_perform 12 = .ok (.aload_n 1, 1) := by decide +kernel
theorem dX0_perform_13 : decode cX0_perform 13 = .ok (.invokevirtual 15, 3) := by decide +kernel
theorem dX0_perform_16 : decode cX0_perform 16 = .ok (.if_icmp .ge 53, 3) := by decide +kernel
theorem dX0_perform_19 : decode cX0_perform 19 = .ok (.aload_n 0, 1) := by decide +kernel
theorem dX0_perform_20 : decode cX0_perform 20 = .ok (.getfield 9, 3) := by decide +kernel
theorem dX0_perform_23 : decode cX0_perform 23 = .ok (.ifCond .ne 46, 3) := by decide +kernel
theorem dX0_perform_26 : decode cX0_perform 26 = .ok (.aload_n 1, 1) := by decide +kernel
theorem dX0_perform_27 : decode cX0_perform 27 = .ok (.iload 4, 2) := by decide +kernel
theorem dX0_perform_29 : decode cX0_perform 29 = .ok (.aload_n 2, 1) := by decide +kernel
theorem dX0_perform_30 : decode cX0_perform 30 = .ok (.invokestatic 49, 3) := by decide +kernel
theorem dX0_perform_33 : decode cX0_perform 33 = .ok (.ifCond .ge 11, 3) := by decide +kernel
theorem dX0_perform_36 : decode cX0_perform 36 = .ok (.aload_n 0, 1) := by decide +kernel
theorem dX0_perform_37 : decode cX0_perform 37 = .ok (.iconst 1, 1) := by decide +kernel
theorem dX0_perform_38 : decode cX0_perform 38 = .ok (.putfield 9, 3) := by decide +kernel
theorem dX0_perform_41 : decode cX0_perform 41 = .ok (.goto 6, 3) := by decide +kernel
theorem dX0_perform_44 : decode cX0_perform 44 = .ok (.iinc 3 1, 3) := by decide +kernel
theorem dX0_perform_47 : decode cX0_perform 47 = .ok (.iload 4, 2) := by decide +kernel
theorem dX0_perform_49 : decode cX0_perform 49 = .ok (.iconst 1, 1) := by decide +kernel
theorem dX0_perform_50 : decode cX0_perform 50 = .ok (.aload_n 1, 1) := by decide +kernel
theorem dX0_perform_51 : decode cX0_perform 51 = .ok (.iload 4, 2) := by decide +kernel
theorem dX0_perform_53 : decode cX0_perform 53 = .ok (.invokevirtual 27, 3) := by decide +kernel
theorem dX0_perform_56 : decode cX0_perform 56 = .ok (.invokestatic 31, 3) := by decide +kernel
theorem dX0_perform_59 : decode cX0_perform 59 = .ok (.invokevirtual 41, 3) := by decide +kernel
theorem dX0_perform_62 : decode cX0_perform 62 = .ok (.iadd, 1) := by decide +kernel
theorem dX0_perform_63 : decode cX0_perform 63 = .ok (.iadd, 1) := by decide +kernel
theorem dX0_perform_64 : decode cX0_perform 64 = .ok (.istore 4, 2) := by decide +kernel
theorem dX0_perform_66 : decode cX0_perform 66 = .ok (.goto (-56), 3) := by decide +kernel
theorem dX0_perform_69 : decode cX0_perform 69 = .ok (.iload_n 3, 1) := by decide +kernel
theorem dX0_perform_70 : decode cX0_perform 70 = .ok (.ireturn, 1) := by decide +kernel
theorem dX0_performOne_0 : decode cX0_performOne 0 = .ok (.aload_n 0, 1) := by decide +kernel
theorem dX0_performOne_1 : decode cX0_performOne 1 = .ok (.iload_n 1, 1) := by decide +kernel
theorem dX0_performOne_2 : decode cX0_performOne 2 = .ok (.invokevirtual 27, 3) := by decide +kernel
theorem dX0_performOne_5 : decode cX0_performOne 5 = .ok (.tableswitch 246 99 122 #[175, 246, 227, 246, 246, 246, 246, 149, 214, 246, 246, 246, 246, 111, 246, 246, 246, 130, 246, 246, 246, 246, 246, 201], 111) := by decide +kernel
theorem dX0_performOne_116 : decode cX0_performOne 116 = .ok (.aload_n 2, 1) := by decide +kernel
theorem dX0_performOne_117 : decode cX0_performOne 117 = .ok (.aload_n 0, 1) := by decide +kernel
theorem dX0_performOne_118 : decode cX0_performOne 118 = .ok (.iload_n 1, 1) := by decide +kernel
theorem dX0_performOne_119 : decode cX0_performOne 119 = .ok (.iconst 1, 1) := by decide +kernel
theorem dX0_performOne_120 : decode cX0_performOne 120 = .ok (.iadd, 1) := by decide +kernel
theorem dX0_performOne_121 : decode cX0_performOne 121 = .ok (.invokevirtual 53, 3) := by decide +kernel
theorem dX0_performOne_124 : decode cX0_performOne 124 = .ok (.aload_n 0, 1) := by decide +kernel
theorem dX0_performOne_125 : decode cX0_performOne 125 = .ok (.iload_n 1, 1) := by decide +kernel
theorem dX0_performOne_126 : decode cX0_performOne 126 = .ok (.iconst 2, 1) := by decide +kernel
theorem dX0_performOne_127 : decode cX0_performOne 127 = .ok (.iadd, 1) := by decide +kernel
theorem dX0_performOne_128 : decode cX0_performOne 128 = .ok (.invokevirtual 57, 3) := by decide +kernel
theorem dX0_performOne_131 : decode cX0_performOne 131 = .ok (.invokevirtual 60, 3) := by decide +kernel
theorem dX0_performOne_134 : decode cX0_performOne 134 = .ok (.ireturn, 1) := by decide +kernel
theorem dX0_performOne_135 : decode cX0_performOne 135 = .ok (.aload_n 2, 1) := by decide +kernel
theorem dX0_performOne_136 : decode cX0_performOne 136 = .ok (.aload_n 0, 1) := by decide +kernel
theorem dX0_performOne_137 : decode cX0_performOne 137 = .ok (.iload_n 1, 1) := by decide +kernel
theorem dX0_performOne_138 : decode cX0_performOne 138 = .ok (.iconst 1, 1) := by decide +kernel
theorem dX0_performOne_139 : decode cX0_performOne 139 = .ok (.iadd, 1) := by decide +kernel
theorem dX0_performOne_140 : decode cX0_performOne 140 = .ok (.invokevirtual 53, 3) := by decide +kernel
theorem dX0_performOne_143 : decode cX0_performOne 143 = .ok (.aload_n 0, 1) := by decide +kernel
theorem dX0_performOne_144 : decode cX0_performOne 144 = .ok (.iload_n 1, 1) := by decide +kernel
theorem dX0_performOne_145 : decode cX0_performOne 145 = .ok (.iconst 2, 1) := by decide +kernel
theorem dX0_performOne_146 : decode cX0_performOne 146 = .ok (.iadd, 1) := by decide +kernel
theorem dX0_performOne_147 : decode cX0_performOne 147 = .ok (.invokevirtual 53, 3) := by decide +kernel
theorem dX0_performOne_150 : decode cX0_performOne 150 = .ok (.invokevirtual 65, 3) := by decide +kernel
theorem dX0_performOne_153 : decode cX0_performOne 153 = .ok (.ireturn, 1) := by decide +kernel
theorem dX0_performOne_154 : decode cX0_performOne 154 = .ok (.aload_n 2, 1) := by decide +kernel
theorem dX0_performOne_155 : decode cX0_performOne 155 = .ok (.aload_n 0, 1) := by decide +kernel
theorem dX0_performOne_156 : decode cX0_performOne 156 = .ok (.iload_n 1, 1) := by decide +kernel
theorem dX0_performOne_157 : decode cX0_performOne 157 = .ok (.iconst 1, 1) := by decide +kernel
theorem dX0_performOne_158 : decode cX0_performOne 158 = .ok (.iadd, 1) := by decide +kernel
theorem dX0_performOne_159 : decode cX0_performOne 159 = .ok (.invokevirtual 68, 3) := by decide +kernel
theorem dX0_performOne_162 : decode cX0_performOne 162 = .ok (.aload_n 0, 1) := by decide +kernel
theorem dX0_performOne_163 : decode cX0_performOne 163 = .ok (.iload_n 1, 1) := by decide +kernel
theorem dX0_performOne_164 : decode cX0_performOne 164 = .ok (.iconst 2, 1) := by decide +kernel
theorem dX0_performOne_165 : decode cX0_performOne 165 = .ok (.iadd, 1) := by decide +kernel
theorem dX0_performOne_166 : decode cX0_performOne 166 = .ok (.invokevirtual 68, 3) := by decide +kernel
theorem dX0_performOne_169 : decode cX0_performOne 169 = .ok (.aload_n 0, 1) := by decide +kernel
theorem dX0_performOne_170 : decode cX0_performOne 170 = .ok (.iload_n 1, 1) := by decide +kernel
theorem dX0_performOne_171 : decode cX0_performOne 171 = .ok (.iconst 3, 1) := by decide +kernel
theorem dX0_performOne_172 : decode cX0_performOne 172 = .ok (.iadd, 1) := by decide +kernel
theorem dX0_performOne_173 : decode cX0_performOne 173 = .ok (.invokevirtual 57, 3) := by decide +kernel
theorem dX0_performOne_176 : decode cX0_performOne 176 = .ok (.invokevirtual 71, 3) := by decide +kernel
theorem dX0_performOne_179 : decode cX0_performOne 179 = .ok (.ireturn, 1) := by decide +kernel
theorem dX0_performOne_180 : decode cX0_performOne 180 = .ok (.aload_n 2, 1) := by decide +kernel
theorem dX0_performOne_181 : decode cX0_performOne 181 = .ok (.aload_n 0, 1) := by decide +kernel
theorem dX0_performOne_182 : decode cX0_performOne 182 = .ok (.iload_n 1, 1) := by decide +kernel
theorem dX0_performOne_183 : decode cX0_performOne 183 = .ok (.iconst 1, 1) := by decide +kernel
theorem dX0_performOne_184 : decode cX0_performOne 184 = .ok (.iadd, 1) := by decide +kernel
theorem dX0_performOne_185 : decode cX0_performOne 185 = .ok (.invokevirtual 53, 3) := by decide +kernel
theorem dX0_performOne_188 : decode cX0_performOne 188 = .ok (.aload_n 0, 1) := by decide +kernel
theorem dX0_performOne_189 : decode cX0_performOne 189 = .ok (.iload_n 1, 1) := by decide +kernel
theorem dX0_performOne_190 : decode cX0_performOne 190 = .ok (.iconst 2, 1) := by decide +kernel
theorem dX0_performOne_191 : decode cX0_performOne 191 = .ok (.iadd, 1) := by decide +kernel
theorem dX0_performOne_192 : decode cX0_performOne 192 = .ok (.invokevirtual 53, 3) := by decide +kernel
theorem dX0_performOne_195 : decode cX0_performOne 195 = .ok (.aload_n 0, 1) := by decide +kernel
theorem dX0_performOne_196 : decode cX0_performOne 196 = .ok (.iload_n 1, 1) := by decide +kernel
theorem dX0_performOne_197 : decode cX0_performOne 197 = .ok (.iconst 3, 1) := by decide +kernel
theorem dX0_performOne_198 : decode cX0_performOne 198 = .ok (.iadd, 1) := by decide +kernel
theorem dX0_performOne_199 : decode cX0_performOne 199 = .ok (.invokevirtual 57, 3) := by decide +kernel
theorem dX0_performOne_202 : decode cX0_performOne 202 = .ok (.invokevirtual 75, 3) := by decide +kernel
theorem dX0_performOne_205 : decode cX0_performOne 205 = .ok (.ireturn, 1) := by decide +kernel
theorem dX0_performOne_206 : decode cX0_performOne 206 = .ok (.aload_n 2, 1) := by decide +kernel
theorem dX0_performOne_207 : decode cX0_performOne 207 = .ok (.iconst 0, 1) := by decide +kernel
theorem dX0_performOne_208 : decode cX0_performOne 208 = .ok (.aload_n 0, 1) := by decide +kernel
theorem dX0_performOne_209 : decode cX0_performOne 209 = .ok (.iload_n 1, 1) := by decide +kernel
theorem dX0_performOne_210 : decode cX0_performOne 210 = .ok (.iconst 1, 1) := by decide +kernel
theorem dX0_performOne_211 : decode cX0_performOne 211 = .ok (.iadd, 1) := by decide +kernel
theorem dX0_performOne_212 : decode cX0_performOne 212 = .ok (.invokevirtual 53, 3) := by decide +kernel
theorem dX0_performOne_215 : decode cX0_performOne 215 = .ok (.invokevirtual 78, 3) := by decide +kernel
theorem dX0_performOne_218 : decode cX0_performOne 218 = .ok (.ireturn, 1) := by decide +kernel
theorem dX0_performOne_219 : decode cX0_performOne 219 = .ok (.aload_n 2, 1) := by decide +kernel
theorem dX0_performOne_220 : decode cX0_performOne 220 = .ok (.iconst 1, 1) := by decide +kernel
theorem dX0_performOne_221 : decode cX0_performOne 221 = .ok (.aload_n 0, 1) := by decide +kernel
theorem dX0_performOne_222 : decode cX0_performOne 222 = .ok (.iload_n 1, 1) := by decide +kernel
theorem dX0_performOne_223 : decode cX0_performOne 223 = .ok (.iconst 1, 1) := by decide +kernel
theorem dX0_performOne_224 : decode cX0_performOne 224 = .ok (.iadd, 1) := by decide +kernel
theorem dX0_performOne_225 : decode cX0_performOne 225 = .ok (.invokevirtual 53, 3) := by decide +kernel
theorem dX0_performOne_228 : decode cX0_performOne 228 = .ok (.invokevirtual 78, 3) := by decide +kernel
theorem dX0_performOne_231 : decode cX0_performOne 231 = .ok (.ireturn, 1) := by decide +kernel
theorem dX0_performOne_232 : decode cX0_performOne 232 = .ok (.aload_n 2, 1) := by decide +kernel
theorem dX0_performOne_233 : decode cX0_performOne 233 = .ok (.aload_n 0, 1) := by decide +kernel
theorem dX0_performOne_234 : decode cX0_performOne 234 = .ok (.iload_n 1, 1) := by decide +kernel
theorem dX0_performOne_235 : decode cX0_performOne 235 = .ok (.iconst 1, 1) := by decide +kernel
theorem dX0_performOne_236 : decode cX0_performOne 236 = .ok (.iadd, 1) := by decide +kernel
theorem dX0_performOne_237 : decode cX0_performOne 237 = .ok (.invokevirtual 68, 3) := by decide +kernel
theorem dX0_performOne_240 : decode cX0_performOne 240 = .ok (.aload_n 0, 1) := by decide +kernel
theorem dX0_performOne_241 : decode cX0_performOne 241 = .ok (.iload_n 1, 1) := by decide +kernel
theorem dX0_performOne_242 : decode cX0_performOne 242 = .ok (.iconst 2, 1) := by decide +kernel
theorem dX0_performOne_243 : decode cX0_performOne 243 = .ok (.iadd, 1) := by decide +kernel
theorem dX0_performOne_244 : decode cX0_performOne 244 = .ok (.invokevirtual 68, 3) := by decide +kernel
theorem dX0_performOne_247 : decode cX0_performOne 247 = .ok (.invokevirtual 81, 3) := by decide +kernel
theorem dX0_performOne_250 : decode cX0_performOne 250 = .ok (.ireturn, 1) := by decide +kernel
theorem dX0_performOne_251 : decode cX0_performOne 251 = .ok (.iconst (-1), 1) := by decide +kernel
theorem dX0_performOne_252 : decode cX0_performOne 252 = .ok (.ireturn, 1) := by decide +kernel
theorem dX0_formOf_0 : decode cX0_formOf 0 = .ok (.iload_n 0, 1) := by decide +kernel
theorem dX0_formOf_1 : decode cX0_formOf 1 = .ok (.tableswitch 132 99 122 #[120, 132, 129, 132, 132, 132, 132, 117, 126, 132, 132, 132, 132, 111, 132, 132, 132, 114, 132, 132, 132, 132, 132, 123], 111) := by decide +kernel
theorem dX0_formOf_112 : decode cX0_formOf 112 = .ok (.ldc 84, 2) := by decide +kernel
theorem dX0_formOf_114 : decode cX0_formOf 114 = .ok (.areturn, 1) := by decide +kernel
theorem dX0_formOf_115 : decode cX0_formOf 115 = .ok (.ldc 86, 2) := by decide +kernel
theorem dX0_formOf_117 : decode cX0_formOf 117 = .ok (.areturn, 1) := by decide +kernel
theorem dX0_formOf_118 : decode cX0_formOf 118 = .ok (.ldc 88, 2) := by decide +kernel
theorem dX0_formOf_120 : decode cX0_formOf 120 = .ok (.areturn, 1) := by decide +kernel
theorem dX0_formOf_121 : decode cX0_formOf 121 = .ok (.ldc 90, 2) := by decide +kernel
theorem dX0_formOf_123 : decode cX0_formOf 123 = .ok (.areturn, 1) := by decide +kernel
theorem dX0_formOf_124 : decode cX0_formOf 124 = .ok (.ldc 92, 2) := by decide +kernel
theorem dX0_formOf_126 : decode cX0_formOf 126 = .ok (.areturn, 1) := by decide +kernel
theorem dX0_formOf_127 : decode cX0_formOf 127 = .ok (.ldc 92, 2) := by decide +kernel
theorem dX0_formOf_129 : decode cX0_formOf 129 = .ok (.areturn, 1) := by decide +kernel
theorem dX0_formOf_130 : decode cX0_formOf 130 = .ok (.ldc 94, 2) := by decide +kernel
theorem dX0_formOf_132 : decode cX0_formOf 132 = .ok (.areturn, 1) := by decide +kernel
theorem dX0_formOf_133 : decode cX0_formOf 133 = .ok (.ldc 96, 2) := by decide +kernel
theorem dX0_formOf_135 : decode cX0_formOf 135 = .ok (.areturn, 1) := by decide +kernel
theorem dX0_mayStand_0 : decode cX0_mayStand 0 = .ok (.iload_n 1, 1) := by decide +kernel
theorem dX0_mayStand_1 : decode cX0_mayStand 1 = .ok (.bipush 103, 2) := by decide +kernel
theorem dX0_mayStand_3 : decode cX0_mayStand 3 = .ok (.if_icmp .ne 8, 3) := by decide +kernel
theorem dX0_mayStand_6 : decode cX0_mayStand 6 = .ok (.bipush 97, 2) := by decide +kernel
theorem dX0_mayStand_8 : decode cX0_mayStand 8 = .ok (.goto 5, 3) := by decide +kernel
theorem dX0_mayStand_11 : decode cX0_mayStand 11 = .ok (.bipush 48, 2) := by decide +kernel
theorem dX0_mayStand_13 : decode cX0_mayStand 13 = .ok (.istore_n 2, 1) := by decide +kernel
theorem dX0_mayStand_14 : decode cX0_mayStand 14 = .ok (.iload_n 0, 1) := by decide +kernel
theorem dX0_mayStand_15 : decode cX0_mayStand 15 = .ok (.iload_n 2, 1) := by decide +kernel
theorem dX0_mayStand_16 : decode cX0_mayStand 16 = .ok (.if_icmp .lt 12, 3) := by decide +kernel
theorem dX0_mayStand_19 : decode cX0_mayStand 19 = .ok (.iload_n 0, 1) := by decide +kernel
theorem dX0_mayStand_20 : decode cX0_mayStand 20 = .ok (.iload_n 1, 1) := by decide +kernel
theorem dX0_mayStand_21 : decode cX0_mayStand 21 = .ok (.if_icmp .gt 7, 3) := by decide +kernel
theorem dX0_mayStand_24 : decode cX0_mayStand 24 = .ok (.iconst 1, 1) := by decide +kernel
theorem dX0_mayStand_25 : decode cX0_mayStand 25 = .ok (.goto 4, 3) := by decide +kernel
theorem dX0_mayStand_28 : decode cX0_mayStand 28 = .ok (.iconst 0, 1) := by decide +kernel
theorem dX0_mayStand_29 : decode cX0_mayStand 29 = .ok (.ireturn, 1) := by decide +kernel
