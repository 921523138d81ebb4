theorem dX12_init_0 : decode cX12_init 0 = .ok (.aload_n 0, 1) := by decide +kernel
theorem dX12_init_1 : decode cX12_init 1 = .ok (.invokespecial 3, 3) := by decide +kernel
theorem dX12_init_4 : decode cX12_init 4 = .ok (.aload_n 0, 1) := by decide +kernel
theorem dX12_init_5 : decode cX12_init 5 = .ok (.bipush 106, 2) := by decide +kernel
theorem dX12_init_7 : decode cX12_init 7 = .ok (.newarray .int, 2) := by decide +kernel
theorem dX12_init_9 : decode cX12_init 9 = .ok (.putfield 9, 3) := by decide +kernel
theorem dX12_init_12 : decode cX12_init 12 = .ok (.aload_n 0, 1) := by decide +kernel
theorem dX12_init_13 : decode cX12_init 13 = .ok (.bipush 80, 2) := by decide +kernel
theorem dX12_init_15 : decode cX12_init 15 = .ok (.newarray .byte, 2) := by decide +kernel
theorem dX12_init_17 : decode cX12_init 17 = .ok (.putfield 13, 3) := by decide +kernel
theorem dX12_init_20 : decode cX12_init 20 = .ok (.aload_n 0, 1) := by decide +kernel
theorem dX12_init_21 : decode cX12_init 21 = .ok (.bipush 16, 2) := by decide +kernel
theorem dX12_init_23 : decode cX12_init 23 = .ok (.newarray .long, 2) := by decide +kernel
theorem dX12_init_25 : decode cX12_init 25 = .ok (.putfield 17, 3) := by decide +kernel
theorem dX12_init_28 : decode cX12_init 28 = .ok (.aload_n 0, 1) := by decide +kernel
theorem dX12_init_29 : decode cX12_init 29 = .ok (.bipush 6, 2) := by decide +kernel
theorem dX12_init_31 : decode cX12_init 31 = .ok (.newarray .int, 2) := by decide +kernel
theorem dX12_init_33 : decode cX12_init 33 = .ok (.putfield 21, 3) := by decide +kernel
theorem dX12_init_36 : decode cX12_init 36 = .ok (.aload_n 0, 1) := by decide +kernel
theorem dX12_init_37 : decode cX12_init 37 = .ok (.bipush 40, 2) := by decide +kernel
theorem dX12_init_39 : decode cX12_init 39 = .ok (.newarray .byte, 2) := by decide +kernel
theorem dX12_init_41 : decode cX12_init 41 = .ok (.putfield 24, 3) := by decide +kernel
theorem dX12_init_44 : decode cX12_init 44 = .ok (.aload_n 0, 1) := by decide +kernel
theorem dX12_init_45 : decode cX12_init 45 = .ok (.bipush 40, 2) := by decide +kernel
theorem dX12_init_47 : decode cX12_init 47 = .ok (.newarray .byte, 2) := by decide +kernel
theorem dX12_init_49 : decode cX12_init 49 = .ok (.putfield 27, 3) := by decide +kernel
theorem dX12_init_52 : decode cX12_init 52 = .ok (.aload_n 0, 1) := by decide +kernel
theorem dX12_init_53 : decode cX12_init 53 = .ok (.bipush 7, 2) := by decide +kernel
theorem dX12_init_55 : decode cX12_init 55 = .ok (.newarray .int, 2) := by decide +kernel
theorem dX12_init_57 : decode cX12_init 57 = .ok (.putfield 30, 3) := by decide +kernel
theorem dX12_init_60 : decode cX12_init 60 = .ok (.aload_n 0, 1) := by decide +kernel
theorem dX12_init_61 : decode cX12_init 61 = .ok (.sipush 1060, 3) := by decide +kernel
theorem dX12_init_64 : decode cX12_init 64 = .ok (.newarray .int, 2) := by decide +kernel
theorem dX12_init_66 : decode cX12_init 66 = .ok (.putfield 33, 3) := by decide +kernel
theorem dX12_init_69 : decode cX12_init 69 = .ok (.aload_n 0, 1) := by decide +kernel
theorem dX12_init_70 : decode cX12_init 70 = .ok (.bipush 106, 2) := by decide +kernel
theorem dX12_init_72 : decode cX12_init 72 = .ok (.newarray .int, 2) := by decide +kernel
theorem dX12_init_74 : decode cX12_init 74 = .ok (.putfield 36, 3) := by decide +kernel
theorem dX12_init_77 : decode cX12_init 77 = .ok (.aload_n 0, 1) := by decide +kernel
theorem dX12_init_78 : decode cX12_init 78 = .ok (.bipush 106, 2) := by decide +kernel
theorem dX12_init_80 : decode cX12_init 80 = .ok (.newarray .int, 2) := by decide +kernel
theorem dX12_init_82 : decode cX12_init 82 = .ok (.putfield 39, 3) := by decide +kernel
theorem dX12_init_85 : decode cX12_init 85 = .ok (.aload_n 0, 1) := by decide +kernel
theorem dX12_init_86 : decode cX12_init 86 = .ok (.sipush 320, 3) := by decide +kernel
theorem dX12_init_89 : decode cX12_init 89 = .ok (.newarray .int, 2) := by decide +kernel
theorem dX12_init_91 : decode cX12_init 91 = .ok (.putfield 42, 3) := by decide +kernel
theorem dX12_init_94 : decode cX12_init 94 = .ok (.aload_n 0, 1) := by decide +kernel
theorem dX12_init_95 : decode cX12_init 95 = .ok (.sipush 10400, 3) := by decide +kernel
theorem dX12_init_98 : decode cX12_init 98 = .ok (.newarray .int, 2) := by decide +kernel
theorem dX12_init_100 : decode cX12_init 100 = .ok (.putfield 45, 3) := by decide +kernel
theorem dX12_init_103 : decode cX12_init 103 = .ok (.aload_n 0, 1) := by decide +kernel
theorem dX12_init_104 : decode cX12_init 104 = .ok (.sipush 1300, 3) := by decide +kernel
theorem dX12_init_107 : decode cX12_init 107 = .ok (.newarray .int, 2) := by decide +kernel
theorem dX12_init_109 : decode cX12_init 109 = .ok (.putfield 48, 3) := by decide +kernel
theorem dX12_init_112 : decode cX12_init 112 = .ok (.aload_n 0, 1) := by decide +kernel
theorem dX12_init_113 : decode cX12_init 113 = .ok (.sipush 1300, 3) := by decide +kernel
theorem dX12_init_116 : decode cX12_init 116 = .ok (.newarray .int, 2) := by decide +kernel
theorem dX12_init_118 : decode cX12_init 118 = .ok (.putfield 51, 3) := by decide +kernel
theorem dX12_init_121 : decode cX12_init 121 = .ok (.aload_n 0, 1) := by decide +kernel
theorem dX12_init_122 : decode cX12_init 122 = .ok (.sipush 1300, 3) := by decide +kernel
theorem dX12_init_125 : decode cX12_init 125 = .ok (.newarray .int, 2) := by decide +kernel
theorem dX12_init_127 : decode cX12_init 127 = .ok (.putfield 54, 3) := by decide +kernel
theorem dX12_init_130 : decode cX12_init 130 = .ok (.aload_n 0, 1) := by decide +kernel
theorem dX12_init_131 : decode cX12_init 131 = .ok (.sipush 1300, 3) := by decide +kernel
theorem dX12_init_134 : decode cX12_init 134 = .ok (.newarray .int, 2) := by decide +kernel
theorem dX12_init_136 : decode cX12_init 136 = .ok (.putfield 57, 3) := by decide +kernel
theorem dX12_init_139 : decode cX12_init 139 = .ok (.aload_n 0, 1) := by decide +kernel
theorem dX12_init_140 : decode cX12_init 140 = .ok (.bipush 8, 2) := by decide +kernel
theorem dX12_init_142 : decode cX12_init 142 = .ok (.newarray .int, 2) := by decide +kernel
theorem dX12_init_144 : decode cX12_init 144 = .ok (.putfield 60, 3) := by decide +kernel
theorem dX12_init_147 : decode cX12_init 147 = .ok (.aload_n 0, 1) := by decide +kernel
theorem dX12_init_148 : decode cX12_init 148 = .ok (.bipush 7, 2) := by decide +kernel
theorem dX12_init_150 : decode cX12_init 150 = .ok (.newarray .int, 2) := by decide +kernel
theorem dX12_init_152 : decode cX12_init 152 = .ok (.putfield 63, 3) := by decide +kernel
theorem dX12_init_155 : decode cX12_init 155 = .ok (.aload_n 0, 1) := by decide +kernel
theorem dX12_init_156 : decode cX12_init 156 = .ok (.bipush 8, 2) := by decide +kernel
theorem dX12_init_158 : decode cX12_init 158 = .ok (.newarray .int, 2) := by decide +kernel
theorem dX12_init_160 : decode cX12_init 160 = .ok (.putfield 66, 3) := by decide +kernel
theorem dX12_init_163 : decode cX12_init 163 = .ok (.aload_n 0, 1) := by decide +kernel
theorem dX12_init_164 : decode cX12_init 164 = .ok (.iconst 3, 1) := by decide +kernel
theorem dX12_init_165 : decode cX12_init 165 = .ok (.newarray .int, 2) := by decide +kernel
theorem dX12_init_167 : decode cX12_init 167 = .ok (.dup, 1) := by decide +kernel
theorem dX12_init_168 : decode cX12_init 168 = .ok (.iconst 0, 1) := by decide +kernel
theorem dX12_init_169 : decode cX12_init 169 = .ok (.iconst (-1), 1) := by decide +kernel
theorem dX12_init_170 : decode cX12_init 170 = .ok (.iastore, 1) := by decide +kernel
theorem dX12_init_171 : decode cX12_init 171 = .ok (.dup, 1) := by decide +kernel
theorem dX12_init_172 : decode cX12_init 172 = .ok (.iconst 1, 1) := by decide +kernel
theorem dX12_init_173 : decode cX12_init 173 = .ok (.iconst (-1), 1) := by decide +kernel
theorem dX12_init_174 : decode cX12_init 174 = .ok (.iastore, 1) := by decide +kernel
theorem dX12_init_175 : decode cX12_init 175 = .ok (.dup, 1) := by decide +kernel
theorem dX12_init_176 : decode cX12_init 176 = .ok (.iconst 2, 1) := by decide +kernel
theorem dX12_init_177 : decode cX12_init 177 = .ok (.iconst (-1), 1) := by decide +kernel
theorem dX12_init_178 : decode cX12_init 178 = .ok (.iastore, 1) := by decide +kernel
theorem dX12_init_179 : decode cX12_init 179 = .ok (.putfield 69, 3) := by decide +kernel
theorem dX12_init_182 : decode cX12_init 182 = .ok (.aload_n 0, 1) := by decide +kernel
theorem dX12_init_183 : decode cX12_init 183 = .ok (.iconst 3, 1) := by decide +kernel
theorem dX12_init_184 : decode cX12_init 184 = .ok (.newarray .int, 2) := by decide +kernel
theorem dX12_init_186 : decode cX12_init 186 = .ok (.putfield 72, 3) := by decide +kernel
theorem dX12_init_189 : decode cX12_init 189 = .ok (.aload_n 0, 1) := by decide +kernel
theorem dX12_init_190 : decode cX12_init 190 = .ok (.iconst 3, 1) := by decide +kernel
theorem dX12_init_191 : decode cX12_init 191 = .ok (.newarray .int, 2) := by decide +kernel
theorem dX12_init_193 : decode cX12_init 193 = .ok (.putfield 75, 3) := by decide +kernel
theorem dX12_init_196 : decode cX12_init 196 = .ok (.aload_n 0, 1) := by decide +kernel
theorem dX12_init_197 : decode cX12_init 197 = .ok (.bipush 10, 2) := by decide +kernel
theorem dX12_init_199 : decode cX12_init 199 = .ok (.newarray .int, 2) := by decide +kernel
theorem dX12_init_201 : decode cX12_init 201 = .ok (.putfield 78, 3) := by decide +kernel
theorem dX12_init_204 : decode cX12_init 204 = .ok (.aload_n 0, 1) := by decide +kernel
theorem dX12_init_205 : decode cX12_init 205 = .ok (.bipush 10, 2) := by decide +kernel
theorem dX12_init_207 : decode cX12_init 207 = .ok (.newarray .int, 2) := by decide +kernel
theorem dX12_init_209 : decode cX12_init 209 = .ok (.putfield 81, 3) := by decide +kernel
theorem dX12_init_212 : decode cX12_init 212 = .ok (.aload_n 0, 1) := by decide +kernel
theorem dX12_init_213 : decode cX12_init 213 = .ok (.sipush 1300, 3) := by decide +kernel
theorem dX12_init_216 : decode cX12_init 216 = .ok (.newarray .boolean, 2) := by decide +kernel
theorem dX12_init_218 : decode cX12_init 218 = .ok (.putfield 84, 3) := by decide +kernel
theorem dX12_init_221 : decode cX12_init 221 = .ok (.aload_n 0, 1) := by decide +kernel
theorem dX12_init_222 : decode cX12_init 222 = .ok (.sipush 212, 3) := by decide +kernel
theorem dX12_init_225 : decode cX12_init 225 = .ok (.newarray .int, 2) := by decide +kernel
theorem dX12_init_227 : decode cX12_init 227 = .ok (.putfield 88, 3) := by decide +kernel
theorem dX12_init_230 : decode cX12_init 230 = .ok (.aload_n 0, 1) := by decide +kernel
theorem dX12_init_231 : decode cX12_init 231 = .ok (.iconst 2, 1) := by decide +kernel
theorem dX12_init_232 : decode cX12_init 232 = .ok (.newarray .boolean, 2) := by decide +kernel
theorem dX12_init_234 : decode cX12_init 234 = .ok (.putfield 91, 3) := by decide +kernel
theorem dX12_init_237 : decode cX12_init 237 = .ok (.aload_n 0, 1) := by decide +kernel
theorem dX12_init_238 : decode cX12_init 238 = .ok (.getfield 9, 3) := by decide +kernel
theorem dX12_init_241 : decode cX12_init 241 = .ok (.bipush 104, 2) := by decide +kernel
theorem dX12_init_243 : decode cX12_init 243 = .ok (.iconst 1, 1) := by decide +kernel
theorem dX12_init_244 : decode cX12_init 244 = .ok (.iastore, 1) := by decide +kernel
theorem dX12_init_245 : decode cX12_init 245 = .ok (.return_, 1) := by decide +kernel
theorem dX12_in_0 : decode cX12_in 0 = .ok (.iload_n 0, 1) := by decide +kernel
theorem dX12_in_1 : decode cX12_in 1 = .ok (.iload_n 1, 1) := by decide +kernel
theorem dX12_in_2 : decode cX12_in 2 = .ok (.if_icmp .lt 12, 3) := by decide +kernel
theorem dX12_in_5 : decode cX12_in 5 = .ok (.iload_n 0, 1) := by decide +kernel
theorem dX12_in_6 : decode cX12_in 6 = .ok (.iload_n 2, 1) := by decide +kernel
theorem dX12_in_7 : decode cX12_in 7 = .ok (.if_icmp .gt 7, 3) := by decide +kernel
theorem dX12_in_10 : decode cX12_in 10 = .ok (.iconst 1, 1) := by decide +kernel
theorem dX12_in_11 : decode cX12_in 11 = .ok (.goto 4, 3) := by decide +kernel
theorem dX12_in_14 : decode cX12_in 14 = .ok (.iconst 0, 1) := by decide +kernel
theorem dX12_in_15 : decode cX12_in 15 = .ok (.ireturn, 1) := by decide +kernel
theorem dX12_has_0 : decode cX12_has 0 = .ok (.iload_n 0, 1) := by decide +kernel
theorem dX12_has_1 : decode cX12_has 1 = .ok (.iload_n 1, 1) := by decide +kernel
theorem dX12_has_2 : decode cX12_has 2 = .ok (.ishr, 1) := by decide +kernel
theorem dX12_has_3 : decode cX12_has 3 = .ok (.iconst 1, 1) := by decide +kernel
theorem dX12_has_4 : decode cX12_has 4 = .ok (.iand, 1) := by decide +kernel
theorem dX12_has_5 : decode cX12_has 5 = .ok (.iconst 1, 1) := by decide +kernel
theorem dX12_has_6 : decode cX12_has 6 = .ok (.if_icmp .ne 7, 3) := by decide +kernel
theorem dX12_has_9 : decode cX12_has 9 = .ok (.iconst 1, 1) := by decide +kernel
theorem dX12_has_10 : decode cX12_has 10 = .ok (.goto 4, 3) := by decide +kernel
theorem dX12_has_13 : decode cX12_has 13 = .ok (.iconst 0, 1) := by decide +kernel
theorem dX12_has_14 : decode cX12_has 14 = .ok (.ireturn, 1) := by decide +kernel
theorem dX12_lost_0 : decode cX12_lost 0 = .ok (.aload_n 0, 1) := by decide +kernel
theorem dX12_lost_1 : decode cX12_lost 1 = .ok (.iconst 1, 1) := by decide +kernel
theorem dX12_lost_2 : decode cX12_lost 2 = .ok (.putfield 94, 3) := by decide +kernel
theorem dX12_lost_5 : decode cX12_lost 5 = .ok (.iconst 0, 1) := by decide +kernel
theorem dX12_lost_6 : decode cX12_lost 6 = .ok (.ireturn, 1) := by decide +kernel
theorem dX12_tell_0 : decode cX12_tell 0 = .ok (.aload_n 0, 1) := by decide +kernel
theorem dX12_tell_1 : decode cX12_tell 1 = .ok (.getfield 17, 3) := by decide +kernel
theorem dX12_tell_4 : decode cX12_tell 4 = .ok (.aload_n 0, 1) := by decide +kernel
theorem dX12_tell_5 : decode cX12_tell 5 = .ok (.getfield 98, 3) := by decide +kernel
theorem dX12_tell_8 : decode cX12_tell 8 = .ok (.lload_n 1, 1) := by decide +kernel
theorem dX12_tell_9 : decode cX12_tell 9 = .ok (.lastore, 1) := by decide +kernel
theorem dX12_tell_10 : decode cX12_tell 10 = .ok (.aload_n 0, 1) := by decide +kernel
theorem dX12_tell_11 : decode cX12_tell 11 = .ok (.dup, 1) := by decide +kernel
theorem dX12_tell_12 : decode cX12_tell 12 = .ok (.getfield 98, 3) := by decide +kernel
theorem dX12_tell_15 : decode cX12_tell 15 = .ok (.iconst 1, 1) := by decide +kernel
theorem dX12_tell_16 : decode cX12_tell 16 = .ok (.iadd, 1) := by decide +kernel
theorem dX12_tell_17 : decode cX12_tell 17 = .ok (.putfield 98, 3) := by decide +kernel
theorem dX12_tell_20 : decode cX12_tell 20 = .ok (.return_, 1) := by decide +kernel
theorem dX12_isList_0 : decode cX12_isList 0 = .ok (.iload_n 0, 1) := by decide +kernel
theorem dX12_isList_1 : decode cX12_isList 1 = .ok (.iconst 0, 1) := by decide +kernel
theorem dX12_isList_2 : decode cX12_isList 2 = .ok (.iconst 3, 1) := by decide +kernel
theorem dX12_isList_3 : decode cX12_isList 3 = .ok (.invokestatic 101, 3) := by decide +kernel
theorem dX12_isList_6 : decode cX12_isList 6 = .ok (.ireturn, 1) := by decide +kernel
theorem dX12_isKind_0 : decode cX12_isKind 0 = .ok (.iload_n 0, 1) := by decide +kernel
theorem dX12_isKind_1 : decode cX12_isKind 1 = .ok (.iconst 0, 1) := by decide +kernel
theorem dX12_isKind_2 : decode cX12_isKind 2 = .ok (.iconst 4, 1) := by decide +kernel
theorem dX12_isKind_3 : decode cX12_isKind 3 = .ok (.invokestatic 101, 3) := by decide +kernel
theorem dX12_isKind_6 : decode cX12_isKind 6 = .ok (.ireturn, 1) := by decide +kernel
theorem dX12_weightOf_0 : decode cX12_weightOf 0 = .ok (.aload_n 0, 1) := by decide +kernel
theorem dX12_weightOf_1 : decode cX12_weightOf 1 = .ok (.bipush 28, 2) := by decide +kernel
theorem dX12_weightOf_3 : decode cX12_weightOf 3 = .ok (.bipush 7, 2) := by decide +kernel
theorem dX12_weightOf_5 : decode cX12_weightOf 5 = .ok (.iload_n 1, 1) := by decide +kernel
theorem dX12_weightOf_6 : decode cX12_weightOf 6 = .ok (.imul, 1) := by decide +kernel
theorem dX12_weightOf_7 : decode cX12_weightOf 7 = .ok (.iadd, 1) := by decide +kernel
theorem dX12_weightOf_8 : decode cX12_weightOf 8 = .ok (.iload_n 2, 1) := by decide +kernel
theorem dX12_weightOf_9 : decode cX12_weightOf 9 = .ok (.iadd, 1) := by decide +kernel
theorem dX12_weightOf_10 : decode cX12_weightOf 10 = .ok (.iaload, 1) := by decide +kernel
theorem dX12_weightOf_11 : decode cX12_weightOf 11 = .ok (.ireturn, 1) := by decide +kernel
theorem dX12_edgesOf_0 : decode cX12_edgesOf 0 = .ok (.iconst 0, 1) := by decide +kernel
theorem dX12_edgesOf_1 : decode cX12_edgesOf 1 = .ok (.istore_n 1, 1) := by decide +kernel
theorem dX12_edgesOf_2 : decode cX12_edgesOf 2 = .ok (.iconst 0, 1) := by decide +kernel
theorem dX12_edgesOf_3 : decode cX12_edgesOf 3 = .ok (.istore_n 2, 1) := by decide +kernel
theorem dX12_edgesOf_4 : decode cX12_edgesOf 4 = .ok (.iload_n 2, 1) := by decide +kernel
theorem dX12_edgesOf_5 : decode cX12_edgesOf 5 = .ok (.bipush 7, 2) := by decide +kernel
theorem dX12_edgesOf_7 : decode cX12_edgesOf 7 = .ok (.if_icmp .ge 42, 3) := by decide +kernel
theorem dX12_edgesOf_10 : decode cX12_edgesOf 10 = .ok (.iload_n 2, 1) := by decide +kernel
theorem dX12_edgesOf_11 : decode cX12_edgesOf 11 = .ok (.iconst 1, 1) := by decide +kernel
theorem dX12_edgesOf_12 : decode cX12_edgesOf 12 = .ok (.iadd, 1) := by decide +kernel
theorem dX12_edgesOf_13 : decode cX12_edgesOf 13 = .ok (.istore_n 3, 1) := by decide +kernel
theorem dX12_edgesOf_14 : decode cX12_edgesOf 14 = .ok (.iload_n 3, 1) := by decide +kernel
theorem dX12_edgesOf_15 : decode cX12_edgesOf 15 = .ok (.bipush 7, 2) := by decide +kernel
theorem dX12_edgesOf_17 : decode cX12_edgesOf 17 = .ok (.if_icmp .ge 26, 3) := by decide +kernel
theorem dX12_edgesOf_20 : decode cX12_edgesOf 20 = .ok (.iload_n 1, 1) := by decide +kernel
theorem dX12_edgesOf_21 : decode cX12_edgesOf 21 = .ok (.aload_n 0, 1) := by decide +kernel
theorem dX12_edgesOf_22 : decode cX12_edgesOf 22 = .ok (.iload_n 2, 1) := by decide +kernel
theorem dX12_edgesOf_23 : decode cX12_edgesOf 23 = .ok (.iload_n 3, 1) := by decide +kernel
theorem dX12_edgesOf_24 : decode cX12_edgesOf 24 = .ok (.invokestatic 105, 3) := by decide +kernel
theorem dX12_edgesOf_27 : decode cX12_edgesOf 27 = .ok (.ifCond .le 7, 3) := by decide +kernel
theorem dX12_edgesOf_30 : decode cX12_edgesOf 30 = .ok (.iconst 1, 1) := by decide +kernel
theorem dX12_edgesOf_31 : decode cX12_edgesOf 31 = .ok (.goto 4, 3) := by decide +kernel
theorem dX12_edgesOf_34 : decode cX12_edgesOf 34 = .ok (.iconst 0, 1) := by decide +kernel
theorem dX12_edgesOf_35 : decode cX12_edgesOf 35 = .ok (.iadd, 1) := by decide +kernel
theorem dX12_edgesOf_36 : decode cX12_edgesOf 36 = .ok (.istore_n 1, 1) := by decide +kernel
theorem dX12_edgesOf_37 : decode cX12_edgesOf 37 = .ok (.iinc 3 1, 3) := by decide +kernel
theorem dX12_edgesOf_40 : decode cX12_edgesOf 40 = .ok (.goto (-26), 3) := by decide +kernel
theorem dX12_edgesOf_43 : decode cX12_edgesOf 43 = .ok (.iinc 2 1, 3) := by decide +kernel
theorem dX12_edgesOf_46 : decode cX12_edgesOf 46 = .ok (.goto (-42), 3) := by decide +kernel
theorem dX12_edgesOf_49 : decode cX12_edgesOf 49 = .ok (.iload_n 1, 1) := by decide +kernel
theorem dX12_edgesOf_50 : decode cX12_edgesOf 50 = .ok (.ireturn, 1) := by decide +kernel
theorem dX12_edgeAt_0 : decode cX12_edgeAt 0 = .ok (.iload_n 1, 1) := by decide +kernel
theorem dX12_edgeAt_1 : decode cX12_edgeAt 1 = .ok (.istore_n 2, 1) := by decide +kernel
theorem dX12_edgeAt_2 : decode cX12_edgeAt 2 = .ok (.iconst 0, 1) := by decide +kernel
theorem dX12_edgeAt_3 : decode cX12_edgeAt 3 = .ok (.istore_n 3, 1) := by decide +kernel
theorem dX12_edgeAt_4 : decode cX12_edgeAt 4 = .ok (.iload_n 3, 1) := by decide +kernel
theorem dX12_edgeAt_5 : decode cX12_edgeAt 5 = .ok (.bipush 7, 2) := by decide +kernel
theorem dX12_edgeAt_7 : decode cX12_edgeAt 7 = .ok (.if_icmp .ge 55, 3) := by decide +kernel
theorem dX12_edgeAt_10 : decode cX12_edgeAt 10 = .ok (.iload_n 3, 1) := by decide +kernel
theorem dX12_edgeAt_11 : decode cX12_edgeAt 11 = .ok (.iconst 1, 1) := by decide +kernel
theorem dX12_edgeAt_12 : decode cX12_edgeAt 12 = .ok (.iadd, 1) := by decide +kernel
theorem dX12_edgeAt_13 : decode cX12_edgeAt 13 = .ok (.istore 4, 2) := by decide +kernel
theorem dX12_edgeAt_15 : decode cX12_edgeAt 15 = .ok (.iload 4, 2) := by decide +kernel
theorem dX12_edgeAt_17 : decode cX12_edgeAt 17 = .ok (.bipush 7, 2) := by decide +kernel
theorem dX12_edgeAt_19 : decode cX12_edgeAt 19 = .ok (.if_icmp .ge 37, 3) := by decide +kernel
theorem dX12_edgeAt_22 : decode cX12_edgeAt 22 = .ok (.aload_n 0, 1) := by decide +kernel
theorem dX12_edgeAt_23 : decode cX12_edgeAt 23 = .ok (.iload_n 3, 1) := by decide +kernel
theorem dX12_edgeAt_24 : decode cX12_edgeAt 24 = .ok (.iload 4, 2) := by decide +kernel
theorem dX12_edgeAt_26 : decode cX12_edgeAt 26 = .ok (.invokestatic 105, 3) := by decide +kernel
theorem dX12_edgeAt_29 : decode cX12_edgeAt 29 = .ok (.ifCond .ne 6, 3) := by decide +kernel
theorem dX12_edgeAt_32 : decode cX12_edgeAt 32 = .ok (.goto 18, 3) := by decide +kernel
theorem dX12_edgeAt_35 : decode cX12_edgeAt 35 = .ok (.iload_n 2, 1) := by decide +kernel
theorem dX12_edgeAt_36 : decode cX12_edgeAt 36 = .ok (.ifCond .ne 11, 3) := by decide +kernel
theorem dX12_edgeAt_39 : decode cX12_edgeAt 39 = .ok (.bipush 7, 2) := by decide +kernel
theorem dX12_edgeAt_41 : decode cX12_edgeAt 41 = .ok (.iload_n 3, 1) := by decide +kernel
theorem dX12_edgeAt_42 : decode cX12_edgeAt 42 = .ok (.imul, 1) := by decide +kernel
theorem dX12_edgeAt_43 : decode cX12_edgeAt 43 = .ok (.iload 4, 2) := by decide +kernel
theorem dX12_edgeAt_45 : decode cX12_edgeAt 45 = .ok (.iadd, 1) := by decide +kernel
theorem dX12_edgeAt_46 : decode cX12_edgeAt 46 = .ok (.ireturn, 1) := by decide +kernel
theorem dX12_edgeAt_47 : decode cX12_edgeAt 47 = .ok (.iinc 2 (-1), 3) := by decide +kernel
theorem dX12_edgeAt_50 : decode cX12_edgeAt 50 = .ok (.iinc 4 1, 3) := by decide +kernel
theorem dX12_edgeAt_53 : decode cX12_edgeAt 53 = .ok (.goto (-38), 3) := by decide +kernel
theorem dX12_edgeAt_56 : decode cX12_edgeAt 56 = .ok (.iinc 3 1, 3) := by decide +kernel
theorem dX12_edgeAt_59 : decode cX12_edgeAt 59 = .ok (.goto (-55), 3) := by decide +kernel
theorem dX12_edgeAt_62 : decode cX12_edgeAt 62 = .ok (.iconst (-1), 1) := by decide +kernel
theorem dX12_edgeAt_63 : decode cX12_edgeAt 63 = .ok (.ireturn, 1) := by decide +kernel
theorem dX12_joinedOf_0 : decode cX12_joinedOf 0 = .ok (.iconst 0, 1) := by decide +kernel
theorem dX12_joinedOf_1 : decode cX12_joinedOf 1 = .ok (.istore_n 1, 1) := by decide +kernel
theorem dX12_joinedOf_2 : decode cX12_joinedOf 2 = .ok (.iconst 0, 1) := by decide +kernel
theorem dX12_joinedOf_3 : decode cX12_joinedOf 3 = .ok (.istore_n 2, 1) := by decide +kernel
theorem dX12_joinedOf_4 : decode cX12_joinedOf 4 = .ok (.iload_n 2, 1) := by decide +kernel
theorem dX12_joinedOf_5 : decode cX12_joinedOf 5 = .ok (.bipush 7, 2) := by decide +kernel
theorem dX12_joinedOf_7 : decode cX12_joinedOf 7 = .ok (.if_icmp .ge 42, 3) := by decide +kernel
theorem dX12_joinedOf_10 : decode cX12_joinedOf 10 = .ok (.iconst 0, 1) := by decide +kernel
theorem dX12_joinedOf_11 : decode cX12_joinedOf 11 = .ok (.istore_n 3, 1) := by decide +kernel
theorem dX12_joinedOf_12 : decode cX12_joinedOf 12 = .ok (.iload_n 3, 1) := by decide +kernel
theorem dX12_joinedOf_13 : decode cX12_joinedOf 13 = .ok (.bipush 7, 2) := by decide +kernel
theorem dX12_joinedOf_15 : decode cX12_joinedOf 15 = .ok (.if_icmp .ge 28, 3) := by decide +kernel
theorem dX12_joinedOf_18 : decode cX12_joinedOf 18 = .ok (.iload_n 1, 1) := by decide +kernel
theorem dX12_joinedOf_19 : decode cX12_joinedOf 19 = .ok (.aload_n 0, 1) := by decide +kernel
theorem dX12_joinedOf_20 : decode cX12_joinedOf 20 = .ok (.iload_n 2, 1) := by decide +kernel
theorem dX12_joinedOf_21 : decode cX12_joinedOf 21 = .ok (.iload_n 3, 1) := by decide +kernel
theorem dX12_joinedOf_22 : decode cX12_joinedOf 22 = .ok (.invokestatic 105, 3) := by decide +kernel
theorem dX12_joinedOf_25 : decode cX12_joinedOf 25 = .ok (.ifCond .le 9, 3) := by decide +kernel
theorem dX12_joinedOf_28 : decode cX12_joinedOf 28 = .ok (.iconst 1, 1) := by decide +kernel
theorem dX12_joinedOf_29 : decode cX12_joinedOf 29 = .ok (.iload_n 2, 1) := by decide +kernel
theorem dX12_joinedOf_30 : decode cX12_joinedOf 30 = .ok (.ishl, 1) := by decide +kernel
theorem dX12_joinedOf_31 : decode cX12_joinedOf 31 = .ok (.goto 4, 3) := by decide +kernel
theorem dX12_joinedOf_34 : decode cX12_joinedOf 34 = .ok (.iconst 0, 1) := by decide +kernel
theorem dX12_joinedOf_35 : decode cX12_joinedOf 35 = .ok (.ior, 1) := by decide +kernel
theorem dX12_joinedOf_36 : decode cX12_joinedOf 36 = .ok (.istore_n 1, 1) := by decide +kernel
theorem dX12_joinedOf_37 : decode cX12_joinedOf 37 = .ok (.iinc 3 1, 3) := by decide +kernel
theorem dX12_joinedOf_40 : decode cX12_joinedOf 40 = .ok (.goto (-28), 3) := by decide +kernel
theorem dX12_joinedOf_43 : decode cX12_joinedOf 43 = .ok (.iinc 2 1, 3) := by decide +kernel
theorem dX12_joinedOf_46 : decode cX12_joinedOf 46 = .ok (.goto (-42), 3) := by decide +kernel
theorem dX12_joinedOf_49 : decode cX12_joinedOf 49 = .ok (.iload_n 1, 1) := by decide +kernel
theorem dX12_joinedOf_50 : decode cX12_joinedOf 50 = .ok (.ireturn, 1) := by decide +kernel
theorem dX12_sign_0 : decode cX12_sign 0 = .ok (.aload_n 0, 1) := by decide +kernel
theorem dX12_sign_1 : decode cX12_sign 1 = .ok (.iconst 0, 1) := by decide +kernel
theorem dX12_sign_2 : decode cX12_sign 2 = .ok (.putfield 94, 3) := by decide +kernel
theorem dX12_sign_5 : decode cX12_sign 5 = .ok (.aload_n 0, 1) := by decide +kernel
theorem dX12_sign_6 : decode cX12_sign 6 = .ok (.getfield 109, 3) := by decide +kernel
theorem dX12_sign_9 : decode cX12_sign 9 = .ok (.iconst 4, 1) := by decide +kernel
theorem dX12_sign_10 : decode cX12_sign 10 = .ok (.iadd, 1) := by decide +kernel
theorem dX12_sign_11 : decode cX12_sign 11 = .ok (.bipush 80, 2) := by decide +kernel
theorem dX12_sign_13 : decode cX12_sign 13 = .ok (.if_icmp .le 5, 3) := by decide +kernel
theorem dX12_sign_16 : decode cX12_sign 16 = .ok (.iconst (-1), 1) := by decide +kernel
theorem dX12_sign_17 : decode cX12_sign 17 = .ok (.ireturn, 1) := by decide +kernel
theorem dX12_sign_18 : decode cX12_sign 18 = .ok (.iconst 3, 1) := by decide +kernel
theorem dX12_sign_19 : decode cX12_sign 19 = .ok (.istore_n 2, 1) := by decide +kernel
theorem dX12_sign_20 : decode cX12_sign 20 = .ok (.iload_n 2, 1) := by decide +kernel
theorem dX12_sign_21 : decode cX12_sign 21 = .ok (.ifCond .lt 32, 3) := by decide +kernel
theorem dX12_sign_24 : decode cX12_sign 24 = .ok (.aload_n 0, 1) := by decide +kernel
theorem dX12_sign_25 : decode cX12_sign 25 = .ok (.getfield 13, 3) := by decide +kernel
theorem dX12_sign_28 : decode cX12_sign 28 = .ok (.aload_n 0, 1) := by decide +kernel
theorem dX12_sign_29 : decode cX12_sign 29 = .ok (.dup, 1) := by decide +kernel
theorem dX12_sign_30 : decode cX12_sign 30 = .ok (.getfield 109, 3) := by decide +kernel
theorem dX12_sign_33 : decode cX12_sign 33 = .ok (.dup_x1, 1) := by decide +kernel
theorem dX12_sign_34 : decode cX12_sign 34 = .ok (.iconst 1, 1) := by decide +kernel
theorem dX12_sign_35 : decode cX12_sign 35 = .ok (.iadd, 1) := by decide +kernel
theorem dX12_sign_36 : decode cX12_sign 36 = .ok (.putfield 109, 3) := by decide +kernel
theorem dX12_sign_39 : decode cX12_sign 39 = .ok (.iload_n 1, 1) := by decide +kernel
theorem dX12_sign_40 : decode cX12_sign 40 = .ok (.bipush 8, 2) := by decide +kernel
theorem dX12_sign_42 : decode cX12_sign 42 = .ok (.iload_n 2, 1) := by decide +kernel
theorem dX12_sign_43 : decode cX12_sign 43 = .ok (.imul, 1) := by decide +kernel
theorem dX12_sign_44 : decode cX12_sign 44 = .ok (.ishr, 1) := by decide +kernel
theorem dX12_sign_45 : decode cX12_sign 45 = .ok (.i2b, 1) := by decide +kernel
theorem dX12_sign_46 : decode cX12_sign 46 = .ok (.bastore, 1) := by decide +kernel
theorem dX12_sign_47 : decode cX12_sign 47 = .ok (.iinc 2 (-1), 3) := by decide +kernel
theorem dX12_sign_50 : decode cX12_sign 50 = .ok (.goto (-30), 3) := by decide +kernel
theorem dX12_sign_53 : decode cX12_sign 53 = .ok (.aload_n 0, 1) := by decide +kernel
theorem dX12_sign_54 : decode cX12_sign 54 = .ok (.getfield 109, 3) := by decide +kernel
theorem dX12_sign_57 : decode cX12_sign 57 = .ok (.ireturn, 1) := by decide +kernel
theorem dX12_end_0 : decode cX12_end 0 = .ok (.aload_n 0, 1) := by decide +kernel
theorem dX12_end_1 : decode cX12_end 1 = .ok (.iconst 0, 1) := by decide +kernel
theorem dX12_end_2 : decode cX12_end 2 = .ok (.putfield 94, 3) := by decide +kernel
theorem dX12_end_5 : decode cX12_end 5 = .ok (.iload_n 1, 1) := by decide +kernel
theorem dX12_end_6 : decode cX12_end 6 = .ok (.iconst 0, 1) := by decide +kernel
theorem dX12_end_7 : decode cX12_end 7 = .ok (.aload_n 0, 1) := by decide +kernel
theorem dX12_end_8 : decode cX12_end 8 = .ok (.getfield 109, 3) := by decide +kernel
theorem dX12_end_11 : decode cX12_end 11 = .ok (.invokestatic 101, 3) := by decide +kernel
theorem dX12_end_14 : decode cX12_end 14 = .ok (.ifCond .ne 5, 3) := by decide +kernel
theorem dX12_end_17 : decode cX12_end 17 = .ok (.iconst 0, 1) := by decide +kernel
theorem dX12_end_18 : decode cX12_end 18 = .ok (.ireturn, 1) := by decide +kernel
theorem dX12_end_19 : decode cX12_end 19 = .ok (.aload_n 0, 1) := by decide +kernel
theorem dX12_end_20 : decode cX12_end 20 = .ok (.iload_n 1, 1) := by decide +kernel
theorem dX12_end_21 : decode cX12_end 21 = .ok (.putfield 109, 3) := by decide +kernel
theorem dX12_end_24 : decode cX12_end 24 = .ok (.iconst 1, 1) := by decide +kernel
theorem dX12_end_25 : decode cX12_end 25 = .ok (.ireturn, 1) := by decide +kernel
theorem dX12_begin_0 : decode cX12_begin 0 = .ok (.aload_n 0, 1) := by decide +kernel
theorem dX12_begin_1 : decode cX12_begin 1 = .ok (.aload_n 1, 1) := by decide +kernel
theorem dX12_begin_2 : decode cX12_begin 2 = .ok (.putfield 112, 3) := by decide +kernel
theorem dX12_begin_5 : decode cX12_begin 5 = .ok (.aload_n 0, 1) := by decide +kernel
theorem dX12_begin_6 : decode cX12_begin 6 = .ok (.iload_n 2, 1) := by decide +kernel
theorem dX12_begin_7 : decode cX12_begin 7 = .ok (.putfield 115, 3) := by decide +kernel
theorem dX12_begin_10 : decode cX12_begin 10 = .ok (.aload_n 0, 1) := by decide +kernel
theorem dX12_begin_11 : decode cX12_begin 11 = .ok (.iload_n 3, 1) := by decide +kernel
theorem dX12_begin_12 : decode cX12_begin 12 = .ok (.putfield 118, 3) := by decide +kernel
theorem dX12_begin_15 : decode cX12_begin 15 = .ok (.aload_n 0, 1) := by decide +kernel
theorem dX12_begin_16 : decode cX12_begin 16 = .ok (.iconst 0, 1) := by decide +kernel
theorem dX12_begin_17 : decode cX12_begin 17 = .ok (.putfield 121, 3) := by decide +kernel
theorem dX12_begin_20 : decode cX12_begin 20 = .ok (.aload_n 0, 1) := by decide +kernel
theorem dX12_begin_21 : decode cX12_begin 21 = .ok (.iconst (-1), 1) := by decide +kernel
theorem dX12_begin_22 : decode cX12_begin 22 = .ok (.putfield 124, 3) := by decide +kernel
theorem dX12_begin_25 : decode cX12_begin 25 = .ok (.return_, 1) := by decide +kernel
theorem dX12_beginText_0 : decode cX12_beginText 0 = .ok (.aload_n 0, 1) := by decide +kernel
theorem dX12_beginText_1 : decode cX12_beginText 1 = .ok (.aload_n 0, 1) := by decide +kernel
theorem dX12_beginText_2 : decode cX12_beginText 2 = .ok (.getfield 13, 3) := by decide +kernel
theorem dX12_beginText_5 : decode cX12_beginText 5 = .ok (.aload_n 0, 1) := by decide +kernel
theorem dX12_beginText_6 : decode cX12_beginText 6 = .ok (.getfield 109, 3) := by decide +kernel
theorem dX12_beginText_9 : decode cX12_beginText 9 = .ok (.iload_n 1, 1) := by decide +kernel
theorem dX12_beginText_10 : decode cX12_beginText 10 = .ok (.invokevirtual 127, 3) := by decide +kernel
theorem dX12_beginText_13 : decode cX12_beginText 13 = .ok (.aload_n 0, 1) := by decide +kernel
theorem dX12_beginText_14 : decode cX12_beginText 14 = .ok (.iconst 0, 1) := by decide +kernel
theorem dX12_beginText_15 : decode cX12_beginText 15 = .ok (.putfield 109, 3) := by decide +kernel
theorem dX12_beginText_18 : decode cX12_beginText 18 = .ok (.return_, 1) := by decide +kernel
theorem dX12_here_0 : decode cX12_here 0 = .ok (.aload_n 0, 1) := by decide +kernel
theorem dX12_here_1 : decode cX12_here 1 = .ok (.getfield 121, 3) := by decide +kernel
theorem dX12_here_4 : decode cX12_here 4 = .ok (.aload_n 0, 1) := by decide +kernel
theorem dX12_here_5 : decode cX12_here 5 = .ok (.getfield 115, 3) := by decide +kernel
theorem dX12_here_8 : decode cX12_here 8 = .ok (.if_icmp .ge 30, 3) := by decide +kernel
theorem dX12_here_11 : decode cX12_here 11 = .ok (.aload_n 0, 1) := by decide +kernel
theorem dX12_here_12 : decode cX12_here 12 = .ok (.getfield 121, 3) := by decide +kernel
theorem dX12_here_15 : decode cX12_here 15 = .ok (.aload_n 0, 1) := by decide +kernel
theorem dX12_here_16 : decode cX12_here 16 = .ok (.getfield 118, 3) := by decide +kernel
theorem dX12_here_19 : decode cX12_here 19 = .ok (.if_icmp .ge 19, 3) := by decide +kernel
theorem dX12_here_22 : decode cX12_here 22 = .ok (.aload_n 0, 1) := by decide +kernel
theorem dX12_here_23 : decode cX12_here 23 = .ok (.getfield 112, 3) := by decide +kernel
theorem dX12_here_26 : decode cX12_here 26 = .ok (.aload_n 0, 1) := by decide +kernel
theorem dX12_here_27 : decode cX12_here 27 = .ok (.getfield 121, 3) := by decide +kernel
theorem dX12_here_30 : decode cX12_here 30 = .ok (.baload, 1) := by decide +kernel
theorem dX12_here_31 : decode cX12_here 31 = .ok (.sipush 255, 3) := by decide +kernel
theorem dX12_here_34 : decode cX12_here 34 = .ok (.iand, 1) := by decide +kernel
theorem dX12_here_35 : decode cX12_here 35 = .ok (.goto 4, 3) := by decide +kernel
theorem dX12_here_38 : decode cX12_here 38 = .ok (.iconst (-1), 1) := by decide +kernel
theorem dX12_here_39 : decode cX12_here 39 = .ok (.ireturn, 1) := by decide +kernel
theorem dX12_fine_0 : decode cX12_fine 0 = .ok (.aload_n 0, 1) := by decide +kernel
theorem dX12_fine_1 : decode cX12_fine 1 = .ok (.getfield 124, 3) := by decide +kernel
theorem dX12_fine_4 : decode cX12_fine 4 = .ok (.iconst (-1), 1) := by decide +kernel
theorem dX12_fine_5 : decode cX12_fine 5 = .ok (.if_icmp .ne 7, 3) := by decide +kernel
theorem dX12_fine_8 : decode cX12_fine 8 = .ok (.iconst 1, 1) := by decide +kernel
theorem dX12_fine_9 : decode cX12_fine 9 = .ok (.goto 4, 3) := by decide +kernel
theorem dX12_fine_12 : decode cX12_fine 12 = .ok (.iconst 0, 1) := by decide +kernel
theorem dX12_fine_13 : decode cX12_fine 13 = .ok (.ireturn, 1) := by decide +kernel
theorem dX12_fault_0 : decode cX12_fault 0 = .ok (.aload_n 0, 1) := by decide +kernel
theorem dX12_fault_1 : decode cX12_fault 1 = .ok (.invokevirtual 131, 3) := by decide +kernel
theorem dX12_fault_4 : decode cX12_fault 4 = .ok (.ifCond .eq 8, 3) := by decide +kernel
theorem dX12_fault_7 : decode cX12_fault 7 = .ok (.aload_n 0, 1) := by decide +kernel
theorem dX12_fault_8 : decode cX12_fault 8 = .ok (.iload_n 1, 1) := by decide +kernel
theorem dX12_fault_9 : decode cX12_fault 9 = .ok (.putfield 124, 3) := by decide +kernel
theorem dX12_fault_12 : decode cX12_fault 12 = .ok (.return_, 1) := by decide +kernel
theorem dX12_passes_0 : decode cX12_passes 0 = .ok (.aload_n 0, 1) := by decide +kernel
theorem dX12_passes_1 : decode cX12_passes 1 = .ok (.invokevirtual 131, 3) := by decide +kernel
theorem dX12_passes_4 : decode cX12_passes 4 = .ok (.ifCond .eq 11, 3) := by decide +kernel
theorem dX12_passes_7 : decode cX12_passes 7 = .ok (.aload_n 0, 1) := by decide +kernel
theorem dX12_passes_8 : decode cX12_passes 8 = .ok (.invokevirtual 135, 3) := by decide +kernel
theorem dX12_passes_11 : decode cX12_passes 11 = .ok (.iload_n 1, 1) := by decide +kernel
theorem dX12_passes_12 : decode cX12_passes 12 = .ok (.if_icmp .eq 5, 3) := by decide +kernel
theorem dX12_passes_15 : decode cX12_passes 15 = .ok (.iconst 0, 1) := by decide +kernel
theorem dX12_passes_16 : decode cX12_passes 16 = .ok (.ireturn, 1) := by decide +kernel
theorem dX12_passes_17 : decode cX12_passes 17 = .ok (.aload_n 0, 1) := by decide +kernel
theorem dX12_passes_18 : decode cX12_passes 18 = .ok (.dup, 1) := by decide +kernel
theorem dX12_passes_19 : decode cX12_passes 19 = .ok (.getfield 121, 3) := by decide +kernel
theorem dX12_passes_22 : decode cX12_passes 22 = .ok (.iconst 1, 1) := by decide +kernel
theorem dX12_passes_23 : decode cX12_passes 23 = .ok (.iadd, 1) := by decide +kernel
theorem dX12_passes_24 : decode cX12_passes 24 = .ok (.putfield 121, 3) := by decide +kernel
theorem dX12_passes_27 : decode cX12_passes 27 = .ok (.iconst 1, 1) := by decide +kernel
theorem dX12_passes_28 : decode cX12_passes 28 = .ok (.ireturn, 1) := by decide +kernel
theorem dX12_need_0 : decode cX12_need 0 = .ok (.aload_n 0, 1) := by decide +kernel
theorem dX12_need_1 : decode cX12_need 1 = .ok (.iload_n 1, 1) := by decide +kernel
theorem dX12_need_2 : decode cX12_need 2 = .ok (.invokevirtual 139, 3) := by decide +kernel
theorem dX12_need_5 : decode cX12_need 5 = .ok (.ifCond .ne 11, 3) := by decide +kernel
theorem dX12_need_8 : decode cX12_need 8 = .ok (.aload_n 0, 1) := by decide +kernel
theorem dX12_need_9 : decode cX12_need 9 = .ok (.aload_n 0, 1) := by decide +kernel
theorem dX12_need_10 : decode cX12_need 10 = .ok (.getfield 121, 3) := by decide +kernel
theorem dX12_need_13 : decode cX12_need 13 = .ok (.invokevirtual 143, 3) := by decide +kernel
theorem dX12_need_16 : decode cX12_need 16 = .ok (.return_, 1) := by decide +kernel
theorem dX12_oneOf_0 : decode cX12_oneOf 0 = .ok (.aload_n 0, 1) := by decide +kernel
theorem dX12_oneOf_1 : decode cX12_oneOf 1 = .ok (.invokevirtual 131, 3) := by decide +kernel
theorem dX12_oneOf_4 : decode cX12_oneOf 4 = .ok (.ifCond .ne 5, 3) := by decide +kernel
theorem dX12_oneOf_7 : decode cX12_oneOf 7 = .ok (.iconst 0, 1) := by decide +kernel
theorem dX12_oneOf_8 : decode cX12_oneOf 8 = .ok (.ireturn, 1) := by decide +kernel
theorem dX12_oneOf_9 : decode cX12_oneOf 9 = .ok (.aload_n 0, 1) := by decide +kernel
theorem dX12_oneOf_10 : decode cX12_oneOf 10 = .ok (.invokevirtual 135, 3) := by decide +kernel
theorem dX12_oneOf_13 : decode cX12_oneOf 13 = .ok (.iload_n 1, 1) := by decide +kernel
theorem dX12_oneOf_14 : decode cX12_oneOf 14 = .ok (.iload_n 1, 1) := by decide +kernel
theorem dX12_oneOf_15 : decode cX12_oneOf 15 = .ok (.iload_n 2, 1) := by decide +kernel
theorem dX12_oneOf_16 : decode cX12_oneOf 16 = .ok (.iadd, 1) := by decide +kernel
theorem dX12_oneOf_17 : decode cX12_oneOf 17 = .ok (.iconst 1, 1) := by decide +kernel
theorem dX12_oneOf_18 : decode cX12_oneOf 18 = .ok (.isub, 1) := by decide +kernel
theorem dX12_oneOf_19 : decode cX12_oneOf 19 = .ok (.invokestatic 101, 3) := by decide +kernel
theorem dX12_oneOf_22 : decode cX12_oneOf 22 = .ok (.ifCond .ne 13, 3) := by decide +kernel
theorem dX12_oneOf_25 : decode cX12_oneOf 25 = .ok (.aload_n 0, 1) := by decide +kernel
theorem dX12_oneOf_26 : decode cX12_oneOf 26 = .ok (.aload_n 0, 1) := by decide +kernel
theorem dX12_oneOf_27 : decode cX12_oneOf 27 = .ok (.getfield 121, 3) := by decide +kernel
theorem dX12_oneOf_30 : decode cX12_oneOf 30 = .ok (.invokevirtual 143, 3) := by decide +kernel
theorem dX12_oneOf_33 : decode cX12_oneOf 33 = .ok (.iconst 0, 1) := by decide +kernel
theorem dX12_oneOf_34 : decode cX12_oneOf 34 = .ok (.ireturn, 1) := by decide +kernel
theorem dX12_oneOf_35 : decode cX12_oneOf 35 = .ok (.aload_n 0, 1) := by decide +kernel
theorem dX12_oneOf_36 : decode cX12_oneOf 36 = .ok (.dup, 1) := by decide +kernel
theorem dX12_oneOf_37 : decode cX12_oneOf 37 = .ok (.getfield 121, 3) := by decide +kernel
theorem dX12_oneOf_40 : decode cX12_oneOf 40 = .ok (.iconst 1, 1) := by decide +kernel
theorem dX12_oneOf_41 : decode cX12_oneOf 41 = .ok (.iadd, 1) := by decide +kernel
theorem dX12_oneOf_42 : decode cX12_oneOf 42 = .ok (.putfield 121, 3) := by decide +kernel
theorem dX12_oneOf_45 : decode cX12_oneOf 45 = .ok (.aload_n 0, 1) := by decide +kernel
theorem dX12_oneOf_46 : decode cX12_oneOf 46 = .ok (.getfield 112, 3) := by decide +kernel
theorem dX12_oneOf_49 : decode cX12_oneOf 49 = .ok (.aload_n 0, 1) := by decide +kernel
theorem dX12_oneOf_50 : decode cX12_oneOf 50 = .ok (.getfield 121, 3) := by decide +kernel
theorem dX12_oneOf_53 : decode cX12_oneOf 53 = .ok (.iconst 1, 1) := by decide +kernel
theorem dX12_oneOf_54 : decode cX12_oneOf 54 = .ok (.isub, 1) := by decide +kernel
theorem dX12_oneOf_55 : decode cX12_oneOf 55 = .ok (.baload, 1) := by decide +kernel
theorem dX12_oneOf_56 : decode cX12_oneOf 56 = .ok (.iload_n 1, 1) := by decide +kernel
theorem dX12_oneOf_57 : decode cX12_oneOf 57 = .ok (.isub, 1) := by decide +kernel
theorem dX12_oneOf_58 : decode cX12_oneOf 58 = .ok (.ireturn, 1) := by decide +kernel
theorem dX12_number_0 : decode cX12_number 0 = .ok (.aload_n 0, 1) := by decide +kernel
theorem dX12_number_1 : decode cX12_number 1 = .ok (.bipush 48, 2) := by decide +kernel
theorem dX12_number_3 : decode cX12_number 3 = .ok (.bipush 10, 2) := by decide +kernel
theorem dX12_number_5 : decode cX12_number 5 = .ok (.invokevirtual 147, 3) := by decide +kernel
theorem dX12_number_8 : decode cX12_number 8 = .ok (.istore_n 2, 1) := by decide +kernel
theorem dX12_number_9 : decode cX12_number 9 = .ok (.iconst 1, 1) := by decide +kernel
theorem dX12_number_10 : decode cX12_number 10 = .ok (.istore_n 3, 1) := by decide +kernel
theorem dX12_number_11 : decode cX12_number 11 = .ok (.iload_n 3, 1) := by decide +kernel
theorem dX12_number_12 : decode cX12_number 12 = .ok (.iload_n 1, 1) := by decide +kernel
theorem dX12_number_13 : decode cX12_number 13 = .ok (.if_icmp .ge 44, 3) := by decide +kernel
theorem dX12_number_16 : decode cX12_number 16 = .ok (.aload_n 0, 1) := by decide +kernel
theorem dX12_number_17 : decode cX12_number 17 = .ok (.invokevirtual 131, 3) := by decide +kernel
theorem dX12_number_20 : decode cX12_number 20 = .ok (.ifCond .eq 37, 3) := by decide +kernel
theorem dX12_number_23 : decode cX12_number 23 = .ok (.aload_n 0, 1) := by decide +kernel
theorem dX12_number_24 : decode cX12_number 24 = .ok (.invokevirtual 135, 3) := by decide +kernel
theorem dX12_number_27 : decode cX12_number 27 = .ok (.bipush 48, 2) := by decide +kernel
theorem dX12_number_29 : decode cX12_number 29 = .ok (.bipush 57, 2) := by decide +kernel
theorem dX12_number_31 : decode cX12_number 31 = .ok (.invokestatic 101, 3) := by decide +kernel
theorem dX12_number_34 : decode cX12_number 34 = .ok (.ifCond .eq 23, 3) := by decide +kernel
theorem dX12_number_37 : decode cX12_number 37 = .ok (.bipush 10, 2) := by decide +kernel
theorem dX12_number_39 : decode cX12_number 39 = .ok (.iload_n 2, 1) := by decide +kernel
theorem dX12_number_40 : decode cX12_number 40 = .ok (.imul, 1) := by decide +kernel
theorem dX12_number_41 : decode cX12_number 41 = .ok (.aload_n 0, 1) := by decide +kernel
theorem dX12_number_42 : decode cX12_number 42 = .ok (.bipush 48, 2) := by decide +kernel
theorem dX12_number_44 : decode cX12_number 44 = .ok (.bipush 10, 2) := by decide +kernel
theorem dX12_number_46 : decode cX12_number 46 = .ok (.invokevirtual 147, 3) := by decide +kernel
theorem dX12_number_49 : decode cX12_number 49 = .ok (.iadd, 1) := by decide +kernel
theorem dX12_number_50 : decode cX12_number 50 = .ok (.istore_n 2, 1) := by decide +kernel
theorem dX12_number_51 : decode cX12_number 51 = .ok (.iinc 3 1, 3) := by decide +kernel
theorem dX12_number_54 : decode cX12_number 54 = .ok (.goto (-43), 3) := by decide +kernel
theorem dX12_number_57 : decode cX12_number 57 = .ok (.iload_n 2, 1) := by decide +kernel
theorem dX12_number_58 : decode cX12_number 58 = .ok (.ireturn, 1) := by decide +kernel
theorem dX12_wasRight_0 : decode cX12_wasRight 0 = .ok (.aload_n 0, 1) := by decide +kernel
theorem dX12_wasRight_1 : decode cX12_wasRight 1 = .ok (.getfield 121, 3) := by decide +kernel
theorem dX12_wasRight_4 : decode cX12_wasRight 4 = .ok (.aload_n 0, 1) := by decide +kernel
theorem dX12_wasRight_5 : decode cX12_wasRight 5 = .ok (.getfield 115, 3) := by decide +kernel
theorem dX12_wasRight_8 : decode cX12_wasRight 8 = .ok (.if_icmp .ge 11, 3) := by decide +kernel
theorem dX12_wasRight_11 : decode cX12_wasRight 11 = .ok (.aload_n 0, 1) := by decide +kernel
theorem dX12_wasRight_12 : decode cX12_wasRight 12 = .ok (.aload_n 0, 1) := by decide +kernel
theorem dX12_wasRight_13 : decode cX12_wasRight 13 = .ok (.getfield 121, 3) := by decide +kernel
theorem dX12_wasRight_16 : decode cX12_wasRight 16 = .ok (.invokevirtual 143, 3) := by decide +kernel
theorem dX12_wasRight_19 : decode cX12_wasRight 19 = .ok (.aload_n 0, 1) := by decide +kernel
theorem dX12_wasRight_20 : decode cX12_wasRight 20 = .ok (.invokevirtual 131, 3) := by decide +kernel
theorem dX12_wasRight_23 : decode cX12_wasRight 23 = .ok (.ireturn, 1) := by decide +kernel
theorem dX12_lists_0 : decode cX12_lists 0 = .ok (.aload_n 0, 1) := by decide +kernel
theorem dX12_lists_1 : decode cX12_lists 1 = .ok (.iconst 0, 1) := by decide +kernel
theorem dX12_lists_2 : decode cX12_lists 2 = .ok (.putfield 94, 3) := by decide +kernel
theorem dX12_lists_5 : decode cX12_lists 5 = .ok (.aload_n 0, 1) := by decide +kernel
theorem dX12_lists_6 : decode cX12_lists 6 = .ok (.bipush 80, 2) := by decide +kernel
theorem dX12_lists_8 : decode cX12_lists 8 = .ok (.invokevirtual 151, 3) := by decide +kernel
theorem dX12_lists_11 : decode cX12_lists 11 = .ok (.iconst 0, 1) := by decide +kernel
theorem dX12_lists_12 : decode cX12_lists 12 = .ok (.istore_n 2, 1) := by decide +kernel
theorem dX12_lists_13 : decode cX12_lists 13 = .ok (.aload_n 0, 1) := by decide +kernel
theorem dX12_lists_14 : decode cX12_lists 14 = .ok (.getfield 115, 3) := by decide +kernel
theorem dX12_lists_17 : decode cX12_lists 17 = .ok (.ifCond .le 7, 3) := by decide +kernel
theorem dX12_lists_20 : decode cX12_lists 20 = .ok (.iconst 1, 1) := by decide +kernel
theorem dX12_lists_21 : decode cX12_lists 21 = .ok (.goto 4, 3) := by decide +kernel
theorem dX12_lists_24 : decode cX12_lists 24 = .ok (.iconst 0, 1) := by decide +kernel
theorem dX12_lists_25 : decode cX12_lists 25 = .ok (.istore_n 3, 1) := by decide +kernel
theorem dX12_lists_26 : decode cX12_lists 26 = .ok (.iload_n 3, 1) := by decide +kernel
theorem dX12_lists_27 : decode cX12_lists 27 = .ok (.ifCond .eq 51, 3) := by decide +kernel
theorem dX12_lists_30 : decode cX12_lists 30 = .ok (.aload_n 0, 1) := by decide +kernel
theorem dX12_lists_31 : decode cX12_lists 31 = .ok (.invokevirtual 131, 3) := by decide +kernel
theorem dX12_lists_34 : decode cX12_lists 34 = .ok (.ifCond .eq 44, 3) := by decide +kernel
theorem dX12_lists_37 : decode cX12_lists 37 = .ok (.iload_n 2, 1) := by decide +kernel
theorem dX12_lists_38 : decode cX12_lists 38 = .ok (.bipush 6, 2) := by decide +kernel
theorem dX12_lists_40 : decode cX12_lists 40 = .ok (.if_icmp .ne 14, 3) := by decide +kernel
theorem dX12_lists_43 : decode cX12_lists 43 = .ok (.aload_n 0, 1) := by decide +kernel
theorem dX12_lists_44 : decode cX12_lists 44 = .ok (.aload_n 0, 1) := by decide +kernel
theorem dX12_lists_45 : decode cX12_lists 45 = .ok (.getfield 121, 3) := by decide +kernel
theorem dX12_lists_48 : decode cX12_lists 48 = .ok (.invokevirtual 143, 3) := by decide +kernel
theorem dX12_lists_51 : decode cX12_lists 51 = .ok (.goto 14, 3) := by decide +kernel
theorem dX12_lists_54 : decode cX12_lists 54 = .ok (.aload_n 0, 1) := by decide +kernel
theorem dX12_lists_55 : decode cX12_lists 55 = .ok (.getfield 21, 3) := by decide +kernel
theorem dX12_lists_58 : decode cX12_lists 58 = .ok (.iload_n 2, 1) := by decide +kernel
theorem dX12_lists_59 : decode cX12_lists 59 = .ok (.aload_n 0, 1) := by decide +kernel
theorem dX12_lists_60 : decode cX12_lists 60 = .ok (.iconst 2, 1) := by decide +kernel
theorem dX12_lists_61 : decode cX12_lists 61 = .ok (.invokevirtual 154, 3) := by decide +kernel
theorem dX12_lists_64 : decode cX12_lists 64 = .ok (.iastore, 1) := by decide +kernel
theorem dX12_lists_65 : decode cX12_lists 65 = .ok (.iinc 2 1, 3) := by decide +kernel
theorem dX12_lists_68 : decode cX12_lists 68 = .ok (.aload_n 0, 1) := by decide +kernel
theorem dX12_lists_69 : decode cX12_lists 69 = .ok (.bipush 44, 2) := by decide +kernel
theorem dX12_lists_71 : decode cX12_lists 71 = .ok (.invokevirtual 139, 3) := by decide +kernel
theorem dX12_lists_74 : decode cX12_lists 74 = .ok (.istore_n 3, 1) := by decide +kernel
theorem dX12_lists_75 : decode cX12_lists 75 = .ok (.goto (-49), 3) := by decide +kernel
theorem dX12_lists_78 : decode cX12_lists 78 = .ok (.aload_n 0, 1) := by decide +kernel
theorem dX12_lists_79 : decode cX12_lists 79 = .ok (.invokevirtual 158, 3) := by decide +kernel
theorem dX12_lists_82 : decode cX12_lists 82 = .ok (.ifCond .ne 10, 3) := by decide +kernel
theorem dX12_lists_85 : decode cX12_lists 85 = .ok (.iconst (-1), 1) := by decide +kernel
theorem dX12_lists_86 : decode cX12_lists 86 = .ok (.aload_n 0, 1) := by decide +kernel
theorem dX12_lists_87 : decode cX12_lists 87 = .ok (.getfield 124, 3) := by decide +kernel
theorem dX12_lists_90 : decode cX12_lists 90 = .ok (.isub, 1) := by decide +kernel
theorem dX12_lists_91 : decode cX12_lists 91 = .ok (.ireturn, 1) := by decide +kernel
theorem dX12_lists_92 : decode cX12_lists 92 = .ok (.iload_n 1, 1) := by decide +kernel
theorem dX12_lists_93 : decode cX12_lists 93 = .ok (.invokestatic 161, 3) := by decide +kernel
theorem dX12_lists_96 : decode cX12_lists 96 = .ok (.ifCond .ne 5, 3) := by decide +kernel
theorem dX12_lists_99 : decode cX12_lists 99 = .ok (.iconst (-1), 1) := by decide +kernel
theorem dX12_lists_100 : decode cX12_lists 100 = .ok (.ireturn, 1) := by decide +kernel
theorem dX12_lists_101 : decode cX12_lists 101 = .ok (.aload_n 0, 1) := by decide +kernel
theorem dX12_lists_102 : decode cX12_lists 102 = .ok (.aload_n 0, 1) := by decide +kernel
theorem dX12_lists_103 : decode cX12_lists 103 = .ok (.getfield 9, 3) := by decide +kernel
theorem dX12_lists_106 : decode cX12_lists 106 = .ok (.invokevirtual 165, 3) := by decide +kernel
theorem dX12_lists_109 : decode cX12_lists 109 = .ok (.aload_n 0, 1) := by decide +kernel
theorem dX12_lists_110 : decode cX12_lists 110 = .ok (.getfield 9, 3) := by decide +kernel
theorem dX12_lists_113 : decode cX12_lists 113 = .ok (.bipush 24, 2) := by decide +kernel
theorem dX12_lists_115 : decode cX12_lists 115 = .ok (.iload_n 1, 1) := by decide +kernel
theorem dX12_lists_116 : decode cX12_lists 116 = .ok (.iadd, 1) := by decide +kernel
theorem dX12_lists_117 : decode cX12_lists 117 = .ok (.iconst 0, 1) := by decide +kernel
theorem dX12_lists_118 : decode cX12_lists 118 = .ok (.iastore, 1) := by decide +kernel
theorem dX12_lists_119 : decode cX12_lists 119 = .ok (.iconst 0, 1) := by decide +kernel
theorem dX12_lists_120 : decode cX12_lists 120 = .ok (.istore 4, 2) := by decide +kernel
theorem dX12_lists_122 : decode cX12_lists 122 = .ok (.iload 4, 2) := by decide +kernel
theorem dX12_lists_124 : decode cX12_lists 124 = .ok (.iload_n 2, 1) := by decide +kernel
theorem dX12_lists_125 : decode cX12_lists 125 = .ok (.if_icmp .ge 25, 3) := by decide +kernel
theorem dX12_lists_128 : decode cX12_lists 128 = .ok (.aload_n 0, 1) := by decide +kernel
theorem dX12_lists_129 : decode cX12_lists 129 = .ok (.getfield 9, 3) := by decide +kernel
theorem dX12_lists_132 : decode cX12_lists 132 = .ok (.iload_n 1, 1) := by decide +kernel
theorem dX12_lists_133 : decode cX12_lists 133 = .ok (.aload_n 0, 1) := by decide +kernel
theorem dX12_lists_134 : decode cX12_lists 134 = .ok (.getfield 21, 3) := by decide +kernel
theorem dX12_lists_137 : decode cX12_lists 137 = .ok (.iload 4, 2) := by decide +kernel
theorem dX12_lists_139 : decode cX12_lists 139 = .ok (.iaload, 1) := by decide +kernel
theorem dX12_lists_140 : decode cX12_lists 140 = .ok (.invokestatic 169, 3) := by decide +kernel
theorem dX12_lists_143 : decode cX12_lists 143 = .ok (.pop, 1) := by decide +kernel
theorem dX12_lists_144 : decode cX12_lists 144 = .ok (.iinc 4 1, 3) := by decide +kernel
theorem dX12_lists_147 : decode cX12_lists 147 = .ok (.goto (-25), 3) := by decide +kernel
theorem dX12_lists_150 : decode cX12_lists 150 = .ok (.iload_n 2, 1) := by decide +kernel
theorem dX12_lists_151 : decode cX12_lists 151 = .ok (.ireturn, 1) := by decide +kernel
theorem dX12_held_0 : decode cX12_held 0 = .ok (.aload_n 0, 1) := by decide +kernel
theorem dX12_held_1 : decode cX12_held 1 = .ok (.iload_n 1, 1) := by decide +kernel
theorem dX12_held_2 : decode cX12_held 2 = .ok (.invokevirtual 172, 3) := by decide +kernel
theorem dX12_held_5 : decode cX12_held 5 = .ok (.istore_n 2, 1) := by decide +kernel
theorem dX12_held_6 : decode cX12_held 6 = .ok (.aload_n 0, 1) := by decide +kernel
theorem dX12_held_7 : decode cX12_held 7 = .ok (.bipush 60, 2) := by decide +kernel
theorem dX12_held_9 : decode cX12_held 9 = .ok (.invokevirtual 139, 3) := by decide +kernel
theorem dX12_held_12 : decode cX12_held 12 = .ok (.ifCond .eq 18, 3) := by decide +kernel
theorem dX12_held_15 : decode cX12_held 15 = .ok (.iload_n 2, 1) := by decide +kernel
theorem dX12_held_16 : decode cX12_held 16 = .ok (.aload_n 0, 1) := by decide +kernel
theorem dX12_held_17 : decode cX12_held 17 = .ok (.iload_n 1, 1) := by decide +kernel
theorem dX12_held_18 : decode cX12_held 18 = .ok (.invokevirtual 172, 3) := by decide +kernel
theorem dX12_held_21 : decode cX12_held 21 = .ok (.if_icmp .ge 7, 3) := by decide +kernel
theorem dX12_held_24 : decode cX12_held 24 = .ok (.iconst 1, 1) := by decide +kernel
theorem dX12_held_25 : decode cX12_held 25 = .ok (.goto 4, 3) := by decide +kernel
theorem dX12_held_28 : decode cX12_held 28 = .ok (.iconst 0, 1) := by decide +kernel
theorem dX12_held_29 : decode cX12_held 29 = .ok (.ireturn, 1) := by decide +kernel
theorem dX12_held_30 : decode cX12_held 30 = .ok (.aload_n 0, 1) := by decide +kernel
theorem dX12_held_31 : decode cX12_held 31 = .ok (.bipush 62, 2) := by decide +kernel
theorem dX12_held_33 : decode cX12_held 33 = .ok (.invokevirtual 139, 3) := by decide +kernel
theorem dX12_held_36 : decode cX12_held 36 = .ok (.ifCond .eq 18, 3) := by decide +kernel
theorem dX12_held_39 : decode cX12_held 39 = .ok (.iload_n 2, 1) := by decide +kernel
theorem dX12_held_40 : decode cX12_held 40 = .ok (.aload_n 0, 1) := by decide +kernel
theorem dX12_held_41 : decode cX12_held 41 = .ok (.iload_n 1, 1) := by decide +kernel
theorem dX12_held_42 : decode cX12_held 42 = .ok (.invokevirtual 172, 3) := by decide +kernel
theorem dX12_held_45 : decode cX12_held 45 = .ok (.if_icmp .le 7, 3) := by decide +kernel
theorem dX12_held_48 : decode cX12_held 48 = .ok (.iconst 1, 1) := by decide +kernel
theorem dX12_held_49 : decode cX12_held 49 = .ok (.goto 4, 3) := by decide +kernel
theorem dX12_held_52 : decode cX12_held 52 = .ok (.iconst 0, 1) := by decide +kernel
theorem dX12_held_53 : decode cX12_held 53 = .ok (.ireturn, 1) := by decide +kernel
theorem dX12_held_54 : decode cX12_held 54 = .ok (.aload_n 0, 1) := by decide +kernel
theorem dX12_held_55 : decode cX12_held 55 = .ok (.bipush 61, 2) := by decide +kernel
theorem dX12_held_57 : decode cX12_held 57 = .ok (.invokevirtual 139, 3) := by decide +kernel
theorem dX12_held_60 : decode cX12_held 60 = .ok (.ifCond .eq 18, 3) := by decide +kernel
theorem dX12_held_63 : decode cX12_held 63 = .ok (.iload_n 2, 1) := by decide +kernel
theorem dX12_held_64 : decode cX12_held 64 = .ok (.aload_n 0, 1) := by decide +kernel
theorem dX12_held_65 : decode cX12_held 65 = .ok (.iload_n 1, 1) := by decide +kernel
theorem dX12_held_66 : decode cX12_held 66 = .ok (.invokevirtual 172, 3) := by decide +kernel
theorem dX12_held_69 : decode cX12_held 69 = .ok (.if_icmp .ne 7, 3) := by decide +kernel
theorem dX12_held_72 : decode cX12_held 72 = .ok (.iconst 1, 1) := by decide +kernel
theorem dX12_held_73 : decode cX12_held 73 = .ok (.goto 4, 3) := by decide +kernel
theorem dX12_held_76 : decode cX12_held 76 = .ok (.iconst 0, 1) := by decide +kernel
theorem dX12_held_77 : decode cX12_held 77 = .ok (.ireturn, 1) := by decide +kernel
theorem dX12_held_78 : decode cX12_held 78 = .ok (.iload_n 2, 1) := by decide +kernel
theorem dX12_held_79 : decode cX12_held 79 = .ok (.ireturn, 1) := by decide +kernel
theorem dX12_sum_0 : decode cX12_sum 0 = .ok (.aload_n 0, 1) := by decide +kernel
theorem dX12_sum_1 : decode cX12_sum 1 = .ok (.iload_n 1, 1) := by decide +kernel
theorem dX12_sum_2 : decode cX12_sum 2 = .ok (.invokevirtual 175, 3) := by decide +kernel
theorem dX12_sum_5 : decode cX12_sum 5 = .ok (.istore_n 2, 1) := by decide +kernel
theorem dX12_sum_6 : decode cX12_sum 6 = .ok (.aload_n 0, 1) := by decide +kernel
theorem dX12_sum_7 : decode cX12_sum 7 = .ok (.invokevirtual 131, 3) := by decide +kernel
theorem dX12_sum_10 : decode cX12_sum 10 = .ok (.ifCond .eq 72, 3) := by decide +kernel
theorem dX12_sum_13 : decode cX12_sum 13 = .ok (.aload_n 0, 1) := by decide +kernel
theorem dX12_sum_14 : decode cX12_sum 14 = .ok (.invokevirtual 135, 3) := by decide +kernel
theorem dX12_sum_17 : decode cX12_sum 17 = .ok (.bipush 43, 2) := by decide +kernel
theorem dX12_sum_19 : decode cX12_sum 19 = .ok (.if_icmp .eq 12, 3) := by decide +kernel
theorem dX12_sum_22 : decode cX12_sum 22 = .ok (.aload_n 0, 1) := by decide +kernel
theorem dX12_sum_23 : decode cX12_sum 23 = .ok (.invokevirtual 135, 3) := by decide +kernel
theorem dX12_sum_26 : decode cX12_sum 26 = .ok (.bipush 45, 2) := by decide +kernel
theorem dX12_sum_28 : decode cX12_sum 28 = .ok (.if_icmp .ne 54, 3) := by decide +kernel
theorem dX12_sum_31 : decode cX12_sum 31 = .ok (.aload_n 0, 1) := by decide +kernel
theorem dX12_sum_32 : decode cX12_sum 32 = .ok (.invokevirtual 135, 3) := by decide +kernel
theorem dX12_sum_35 : decode cX12_sum 35 = .ok (.bipush 43, 2) := by decide +kernel
theorem dX12_sum_37 : decode cX12_sum 37 = .ok (.if_icmp .ne 7, 3) := by decide +kernel
theorem dX12_sum_40 : decode cX12_sum 40 = .ok (.iconst 1, 1) := by decide +kernel
theorem dX12_sum_41 : decode cX12_sum 41 = .ok (.goto 4, 3) := by decide +kernel
theorem dX12_sum_44 : decode cX12_sum 44 = .ok (.iconst 0, 1) := by decide +kernel
theorem dX12_sum_45 : decode cX12_sum 45 = .ok (.istore_n 3, 1) := by decide +kernel
theorem dX12_sum_46 : decode cX12_sum 46 = .ok (.aload_n 0, 1) := by decide +kernel
theorem dX12_sum_47 : decode cX12_sum 47 = .ok (.dup, 1) := by decide +kernel
theorem dX12_sum_48 : decode cX12_sum 48 = .ok (.getfield 121, 3) := by decide +kernel
theorem dX12_sum_51 : decode cX12_sum 51 = .ok (.iconst 1, 1) := by decide +kernel
theorem dX12_sum_52 : decode cX12_sum 52 = .ok (.iadd, 1) := by decide +kernel
theorem dX12_sum_53 : decode cX12_sum 53 = .ok (.putfield 121, 3) := by decide +kernel
theorem dX12_sum_56 : decode cX12_sum 56 = .ok (.aload_n 0, 1) := by decide +kernel
theorem dX12_sum_57 : decode cX12_sum 57 = .ok (.iload_n 1, 1) := by decide +kernel
theorem dX12_sum_58 : decode cX12_sum 58 = .ok (.invokevirtual 175, 3) := by decide +kernel
theorem dX12_sum_61 : decode cX12_sum 61 = .ok (.istore 4, 2) := by decide +kernel
theorem dX12_sum_63 : decode cX12_sum 63 = .ok (.iload_n 3, 1) := by decide +kernel
theorem dX12_sum_64 : decode cX12_sum 64 = .ok (.ifCond .eq 10, 3) := by decide +kernel
theorem dX12_sum_67 : decode cX12_sum 67 = .ok (.iload_n 2, 1) := by decide +kernel
theorem dX12_sum_68 : decode cX12_sum 68 = .ok (.iload 4, 2) := by decide +kernel
theorem dX12_sum_70 : decode cX12_sum 70 = .ok (.iadd, 1) := by decide +kernel
theorem dX12_sum_71 : decode cX12_sum 71 = .ok (.goto 7, 3) := by decide +kernel
theorem dX12_sum_74 : decode cX12_sum 74 = .ok (.iload_n 2, 1) := by decide +kernel
theorem dX12_sum_75 : decode cX12_sum 75 = .ok (.iload 4, 2) := by decide +kernel
theorem dX12_sum_77 : decode cX12_sum 77 = .ok (.isub, 1) := by decide +kernel
theorem dX12_sum_78 : decode cX12_sum 78 = .ok (.istore_n 2, 1) := by decide +kernel
theorem dX12_sum_79 : decode cX12_sum 79 = .ok (.goto (-73), 3) := by decide +kernel
theorem dX12_sum_82 : decode cX12_sum 82 = .ok (.iload_n 2, 1) := by decide +kernel
theorem dX12_sum_83 : decode cX12_sum 83 = .ok (.ireturn, 1) := by decide +kernel
theorem dX12_product_0 : decode cX12_product 0 = .ok (.aload_n 0, 1) := by decide +kernel
theorem dX12_product_1 : decode cX12_product 1 = .ok (.iload_n 1, 1) := by decide +kernel
theorem dX12_product_2 : decode cX12_product 2 = .ok (.invokevirtual 178, 3) := by decide +kernel
theorem dX12_product_5 : decode cX12_product 5 = .ok (.istore_n 2, 1) := by decide +kernel
theorem dX12_product_6 : decode cX12_product 6 = .ok (.aload_n 0, 1) := by decide +kernel
theorem dX12_product_7 : decode cX12_product 7 = .ok (.invokevirtual 131, 3) := by decide +kernel
theorem dX12_product_10 : decode cX12_product 10 = .ok (.ifCond .eq 81, 3) := by decide +kernel
theorem dX12_product_13 : decode cX12_product 13 = .ok (.aload_n 0, 1) := by decide +kernel
theorem dX12_product_14 : decode cX12_product 14 = .ok (.invokevirtual 135, 3) := by decide +kernel
theorem dX12_product_17 : decode cX12_product 17 = .ok (.bipush 42, 2) := by decide +kernel
theorem dX12_product_19 : decode cX12_product 19 = .ok (.if_icmp .eq 12, 3) := by decide +kernel
theorem dX12_product_22 : decode cX12_product 22 = .ok (.aload_n 0, 1) := by decide +kernel
theorem dX12_product_23 : decode cX12_product 23 = .ok (.invokevirtual 135, 3) := by decide +kernel
theorem dX12_product_26 : decode cX12_product 26 = .ok (.bipush 47, 2) := by decide +kernel
theorem dX12_product_28 : decode cX12_product 28 = .ok (.if_icmp .ne 63, 3) := by decide +kernel
theorem dX12_product_31 : decode cX12_product 31 = .ok (.aload_n 0, 1) := by decide +kernel
theorem dX12_product_32 : decode cX12_product 32 = .ok (.invokevirtual 135, 3) := by decide +kernel
theorem dX12_product_35 : decode cX12_product 35 = .ok (.bipush 42, 2) := by decide +kernel
theorem dX12_product_37 : decode cX12_product 37 = .ok (.if_icmp .ne 7, 3) := by decide +kernel
theorem dX12_product_40 : decode cX12_product 40 = .ok (.iconst 1, 1) := by decide +kernel
theorem dX12_product_41 : decode cX12_product 41 = .ok (.goto 4, 3) := by decide +kernel
theorem dX12_product_44 : decode cX12_product 44 = .ok (.iconst 0, 1) := by decide +kernel
theorem dX12_product_45 : decode cX12_product 45 = .ok (.istore_n 3, 1) := by decide +kernel
theorem dX12_product_46 : decode cX12_product 46 = .ok (.aload_n 0, 1) := by decide +kernel
theorem dX12_product_47 : decode cX12_product 47 = .ok (.dup, 1) := by decide +kernel
theorem dX12_product_48 : decode cX12_product 48 = .ok (.getfield 121, 3) := by decide +kernel
theorem dX12_product_51 : decode cX12_product 51 = .ok (.iconst 1, 1) := by decide +kernel
theorem dX12_product_52 : decode cX12_product 52 = .ok (.iadd, 1) := by decide +kernel
theorem dX12_product_53 : decode cX12_product 53 = .ok (.putfield 121, 3) := by decide +kernel
theorem dX12_product_56 : decode cX12_product 56 = .ok (.aload_n 0, 1) := by decide +kernel
theorem dX12_product_57 : decode cX12_product 57 = .ok (.iload_n 1, 1) := by decide +kernel
theorem dX12_product_58 : decode cX12_product 58 = .ok (.invokevirtual 178, 3) := by decide +kernel
theorem dX12_product_61 : decode cX12_product 61 = .ok (.istore 4, 2) := by decide +kernel
theorem dX12_product_63 : decode cX12_product 63 = .ok (.iload_n 3, 1) := by decide +kernel
theorem dX12_product_64 : decode cX12_product 64 = .ok (.ifCond .eq 10, 3) := by decide +kernel
theorem dX12_product_67 : decode cX12_product 67 = .ok (.iload_n 2, 1) := by decide +kernel
theorem dX12_product_68 : decode cX12_product 68 = .ok (.iload 4, 2) := by decide +kernel
theorem dX12_product_70 : decode cX12_product 70 = .ok (.imul, 1) := by decide +kernel
theorem dX12_product_71 : decode cX12_product 71 = .ok (.goto 16, 3) := by decide +kernel
theorem dX12_product_74 : decode cX12_product 74 = .ok (.iload 4, 2) := by decide +kernel
theorem dX12_product_76 : decode cX12_product 76 = .ok (.ifCond .ne 7, 3) := by decide +kernel
theorem dX12_product_79 : decode cX12_product 79 = .ok (.iconst 0, 1) := by decide +kernel
theorem dX12_product_80 : decode cX12_product 80 = .ok (.goto 7, 3) := by decide +kernel
theorem dX12_product_83 : decode cX12_product 83 = .ok (.iload_n 2, 1) := by decide +kernel
theorem dX12_product_84 : decode cX12_product 84 = .ok (.iload 4, 2) := by decide +kernel
theorem dX12_product_86 : decode cX12_product 86 = .ok (.idiv, 1) := by decide +kernel
theorem dX12_product_87 : decode cX12_product 87 = .ok (.istore_n 2, 1) := by decide +kernel
theorem dX12_product_88 : decode cX12_product 88 = .ok (.goto (-82), 3) := by decide +kernel
theorem dX12_product_91 : decode cX12_product 91 = .ok (.iload_n 2, 1) := by decide +kernel
theorem dX12_product_92 : decode cX12_product 92 = .ok (.ireturn, 1) := by decide +kernel
theorem dX12_letterOf_0 : decode cX12_letterOf 0 = .ok (.iload_n 0, 1) := by decide +kernel
theorem dX12_letterOf_1 : decode cX12_letterOf 1 = .ok (.bipush 115, 2) := by decide +kernel
theorem dX12_letterOf_3 : decode cX12_letterOf 3 = .ok (.if_icmp .ne 7, 3) := by decide +kernel
theorem dX12_letterOf_6 : decode cX12_letterOf 6 = .ok (.iconst 0, 1) := by decide +kernel
theorem dX12_letterOf_7 : decode cX12_letterOf 7 = .ok (.goto 65, 3) := by decide +kernel
theorem dX12_letterOf_10 : decode cX12_letterOf 10 = .ok (.iload_n 0, 1) := by decide +kernel
theorem dX12_letterOf_11 : decode cX12_letterOf 11 = .ok (.bipush 109, 2) := by decide +kernel
theorem dX12_letterOf_13 : decode cX12_letterOf 13 = .ok (.if_icmp .ne 7, 3) := by decide +kernel
theorem dX12_letterOf_16 : decode cX12_letterOf 16 = .ok (.iconst 1, 1) := by decide +kernel
theorem dX12_letterOf_17 : decode cX12_letterOf 17 = .ok (.goto 55, 3) := by decide +kernel
theorem dX12_letterOf_20 : decode cX12_letterOf 20 = .ok (.iload_n 0, 1) := by decide +kernel
theorem dX12_letterOf_21 : decode cX12_letterOf 21 = .ok (.bipush 108, 2) := by decide +kernel
theorem dX12_letterOf_23 : decode cX12_letterOf 23 = .ok (.if_icmp .ne 7, 3) := by decide +kernel
theorem dX12_letterOf_26 : decode cX12_letterOf 26 = .ok (.iconst 2, 1) := by decide +kernel
theorem dX12_letterOf_27 : decode cX12_letterOf 27 = .ok (.goto 45, 3) := by decide +kernel
theorem dX12_letterOf_30 : decode cX12_letterOf 30 = .ok (.iload_n 0, 1) := by decide +kernel
theorem dX12_letterOf_31 : decode cX12_letterOf 31 = .ok (.bipush 102, 2) := by decide +kernel
theorem dX12_letterOf_33 : decode cX12_letterOf 33 = .ok (.if_icmp .ne 7, 3) := by decide +kernel
theorem dX12_letterOf_36 : decode cX12_letterOf 36 = .ok (.iconst 3, 1) := by decide +kernel
theorem dX12_letterOf_37 : decode cX12_letterOf 37 = .ok (.goto 35, 3) := by decide +kernel
theorem dX12_letterOf_40 : decode cX12_letterOf 40 = .ok (.iload_n 0, 1) := by decide +kernel
theorem dX12_letterOf_41 : decode cX12_letterOf 41 = .ok (.bipush 101, 2) := by decide +kernel
theorem dX12_letterOf_43 : decode cX12_letterOf 43 = .ok (.if_icmp .ne 7, 3) := by decide +kernel
theorem dX12_letterOf_46 : decode cX12_letterOf 46 = .ok (.iconst 4, 1) := by decide +kernel
theorem dX12_letterOf_47 : decode cX12_letterOf 47 = .ok (.goto 25, 3) := by decide +kernel
theorem dX12_letterOf_50 : decode cX12_letterOf 50 = .ok (.iload_n 0, 1) := by decide +kernel
theorem dX12_letterOf_51 : decode cX12_letterOf 51 = .ok (.bipush 112, 2) := by decide +kernel
theorem dX12_letterOf_53 : decode cX12_letterOf 53 = .ok (.if_icmp .ne 7, 3) := by decide +kernel
theorem dX12_letterOf_56 : decode cX12_letterOf 56 = .ok (.iconst 5, 1) := by decide +kernel
theorem dX12_letterOf_57 : decode cX12_letterOf 57 = .ok (.goto 15, 3) := by decide +kernel
theorem dX12_letterOf_60 : decode cX12_letterOf 60 = .ok (.iload_n 0, 1) := by decide +kernel
theorem dX12_letterOf_61 : decode cX12_letterOf 61 = .ok (.bipush 110, 2) := by decide +kernel
theorem dX12_letterOf_63 : decode cX12_letterOf 63 = .ok (.if_icmp .ne 8, 3) := by decide +kernel
theorem dX12_letterOf_66 : decode cX12_letterOf 66 = .ok (.bipush 6, 2) := by decide +kernel
theorem dX12_letterOf_68 : decode cX12_letterOf 68 = .ok (.goto 4, 3) := by decide +kernel
theorem dX12_letterOf_71 : decode cX12_letterOf 71 = .ok (.iconst (-1), 1) := by decide +kernel
theorem dX12_letterOf_72 : decode cX12_letterOf 72 = .ok (.ireturn, 1) := by decide +kernel
theorem dX12_thing_0 : decode cX12_thing 0 = .ok (.aload_n 0, 1) := by decide +kernel
theorem dX12_thing_1 : decode cX12_thing 1 = .ok (.bipush 45, 2) := by decide +kernel
theorem dX12_thing_3 : decode cX12_thing 3 = .ok (.invokevirtual 139, 3) := by decide +kernel
theorem dX12_thing_6 : decode cX12_thing 6 = .ok (.ifCond .eq 10, 3) := by decide +kernel
theorem dX12_thing_9 : decode cX12_thing 9 = .ok (.aload_n 0, 1) := by decide +kernel
theorem dX12_thing_10 : decode cX12_thing 10 = .ok (.iload_n 1, 1) := by decide +kernel
theorem dX12_thing_11 : decode cX12_thing 11 = .ok (.invokevirtual 178, 3) := by decide +kernel
theorem dX12_thing_14 : decode cX12_thing 14 = .ok (.ineg, 1) := by decide +kernel
theorem dX12_thing_15 : decode cX12_thing 15 = .ok (.ireturn, 1) := by decide +kernel
theorem dX12_thing_16 : decode cX12_thing 16 = .ok (.aload_n 0, 1) := by decide +kernel
theorem dX12_thing_17 : decode cX12_thing 17 = .ok (.invokevirtual 131, 3) := by decide +kernel
theorem dX12_thing_20 : decode cX12_thing 20 = .ok (.ifCond .ne 5, 3) := by decide +kernel
theorem dX12_thing_23 : decode cX12_thing 23 = .ok (.iconst 0, 1) := by decide +kernel
theorem dX12_thing_24 : decode cX12_thing 24 = .ok (.ireturn, 1) := by decide +kernel
theorem dX12_thing_25 : decode cX12_thing 25 = .ok (.aload_n 0, 1) := by decide +kernel
theorem dX12_thing_26 : decode cX12_thing 26 = .ok (.invokevirtual 135, 3) := by decide +kernel
theorem dX12_thing_29 : decode cX12_thing 29 = .ok (.istore_n 2, 1) := by decide +kernel
theorem dX12_thing_30 : decode cX12_thing 30 = .ok (.iload_n 2, 1) := by decide +kernel
theorem dX12_thing_31 : decode cX12_thing 31 = .ok (.bipush 40, 2) := by decide +kernel
theorem dX12_thing_33 : decode cX12_thing 33 = .ok (.if_icmp .ne 34, 3) := by decide +kernel
theorem dX12_thing_36 : decode cX12_thing 36 = .ok (.iload_n 1, 1) := by decide +kernel
theorem dX12_thing_37 : decode cX12_thing 37 = .ok (.iconst 4, 1) := by decide +kernel
theorem dX12_thing_38 : decode cX12_thing 38 = .ok (.if_icmp .ge 29, 3) := by decide +kernel
theorem dX12_thing_41 : decode cX12_thing 41 = .ok (.aload_n 0, 1) := by decide +kernel
theorem dX12_thing_42 : decode cX12_thing 42 = .ok (.dup, 1) := by decide +kernel
theorem dX12_thing_43 : decode cX12_thing 43 = .ok (.getfield 121, 3) := by decide +kernel
theorem dX12_thing_46 : decode cX12_thing 46 = .ok (.iconst 1, 1) := by decide +kernel
theorem dX12_thing_47 : decode cX12_thing 47 = .ok (.iadd, 1) := by decide +kernel
theorem dX12_thing_48 : decode cX12_thing 48 = .ok (.putfield 121, 3) := by decide +kernel
theorem dX12_thing_51 : decode cX12_thing 51 = .ok (.aload_n 0, 1) := by decide +kernel
theorem dX12_thing_52 : decode cX12_thing 52 = .ok (.iload_n 1, 1) := by decide +kernel
theorem dX12_thing_53 : decode cX12_thing 53 = .ok (.iconst 1, 1) := by decide +kernel
theorem dX12_thing_54 : decode cX12_thing 54 = .ok (.iadd, 1) := by decide +kernel
theorem dX12_thing_55 : decode cX12_thing 55 = .ok (.invokevirtual 181, 3) := by decide +kernel
theorem dX12_thing_58 : decode cX12_thing 58 = .ok (.istore_n 3, 1) := by decide +kernel
theorem dX12_thing_59 : decode cX12_thing 59 = .ok (.aload_n 0, 1) := by decide +kernel
theorem dX12_thing_60 : decode cX12_thing 60 = .ok (.bipush 41, 2) := by decide +kernel
theorem dX12_thing_62 : decode cX12_thing 62 = .ok (.invokevirtual 184, 3) := by decide +kernel
theorem dX12_thing_65 : decode cX12_thing 65 = .ok (.iload_n 3, 1) := by decide +kernel
theorem dX12_thing_66 : decode cX12_thing 66 = .ok (.ireturn, 1) := by decide +kernel
theorem dX12_thing_67 : decode cX12_thing 67 = .ok (.iload_n 2, 1) := by decide +kernel
theorem dX12_thing_68 : decode cX12_thing 68 = .ok (.bipush 48, 2) := by decide +kernel
theorem dX12_thing_70 : decode cX12_thing 70 = .ok (.bipush 57, 2) := by decide +kernel
theorem dX12_thing_72 : decode cX12_thing 72 = .ok (.invokestatic 101, 3) := by decide +kernel
theorem dX12_thing_75 : decode cX12_thing 75 = .ok (.ifCond .eq 9, 3) := by decide +kernel
theorem dX12_thing_78 : decode cX12_thing 78 = .ok (.aload_n 0, 1) := by decide +kernel
theorem dX12_thing_79 : decode cX12_thing 79 = .ok (.iconst 3, 1) := by decide +kernel
theorem dX12_thing_80 : decode cX12_thing 80 = .ok (.invokevirtual 154, 3) := by decide +kernel
theorem dX12_thing_83 : decode cX12_thing 83 = .ok (.ireturn, 1) := by decide +kernel
theorem dX12_thing_84 : decode cX12_thing 84 = .ok (.iload_n 2, 1) := by decide +kernel
theorem dX12_thing_85 : decode cX12_thing 85 = .ok (.invokestatic 188, 3) := by decide +kernel
theorem dX12_thing_88 : decode cX12_thing 88 = .ok (.iconst (-1), 1) := by decide +kernel
theorem dX12_thing_89 : decode cX12_thing 89 = .ok (.if_icmp .ne 13, 3) := by decide +kernel
theorem dX12_thing_92 : decode cX12_thing 92 = .ok (.aload_n 0, 1) := by decide +kernel
theorem dX12_thing_93 : decode cX12_thing 93 = .ok (.aload_n 0, 1) := by decide +kernel
theorem dX12_thing_94 : decode cX12_thing 94 = .ok (.getfield 121, 3) := by decide +kernel
theorem dX12_thing_97 : decode cX12_thing 97 = .ok (.invokevirtual 143, 3) := by decide +kernel
theorem dX12_thing_100 : decode cX12_thing 100 = .ok (.iconst 0, 1) := by decide +kernel
theorem dX12_thing_101 : decode cX12_thing 101 = .ok (.ireturn, 1) := by decide +kernel
theorem dX12_thing_102 : decode cX12_thing 102 = .ok (.aload_n 0, 1) := by decide +kernel
theorem dX12_thing_103 : decode cX12_thing 103 = .ok (.dup, 1) := by decide +kernel
theorem dX12_thing_104 : decode cX12_thing 104 = .ok (.getfield 121, 3) := by decide +kernel
theorem dX12_thing_107 : decode cX12_thing 107 = .ok (.iconst 1, 1) := by decide +kernel
theorem dX12_thing_108 : decode cX12_thing 108 = .ok (.iadd, 1) := by decide +kernel
theorem dX12_thing_109 : decode cX12_thing 109 = .ok (.putfield 121, 3) := by decide +kernel
theorem dX12_thing_112 : decode cX12_thing 112 = .ok (.aload_n 0, 1) := by decide +kernel
theorem dX12_thing_113 : decode cX12_thing 113 = .ok (.getfield 191, 3) := by decide +kernel
theorem dX12_thing_116 : decode cX12_thing 116 = .ok (.ifCond .eq 15, 3) := by decide +kernel
theorem dX12_thing_119 : decode cX12_thing 119 = .ok (.aload_n 0, 1) := by decide +kernel
theorem dX12_thing_120 : decode cX12_thing 120 = .ok (.getfield 30, 3) := by decide +kernel
theorem dX12_thing_123 : decode cX12_thing 123 = .ok (.iload_n 2, 1) := by decide +kernel
theorem dX12_thing_124 : decode cX12_thing 124 = .ok (.invokestatic 188, 3) := by decide +kernel
theorem dX12_thing_127 : decode cX12_thing 127 = .ok (.iaload, 1) := by decide +kernel
theorem dX12_thing_128 : decode cX12_thing 128 = .ok (.goto 4, 3) := by decide +kernel
theorem dX12_thing_131 : decode cX12_thing 131 = .ok (.iconst 0, 1) := by decide +kernel
theorem dX12_thing_132 : decode cX12_thing 132 = .ok (.ireturn, 1) := by decide +kernel
theorem dX12_readRule_0 : decode cX12_readRule 0 = .ok (.aload_n 0, 1) := by decide +kernel
theorem dX12_readRule_1 : decode cX12_readRule 1 = .ok (.bipush 40, 2) := by decide +kernel
theorem dX12_readRule_3 : decode cX12_readRule 3 = .ok (.invokevirtual 151, 3) := by decide +kernel
theorem dX12_readRule_6 : decode cX12_readRule 6 = .ok (.aload_n 0, 1) := by decide +kernel
theorem dX12_readRule_7 : decode cX12_readRule 7 = .ok (.iconst 0, 1) := by decide +kernel
theorem dX12_readRule_8 : decode cX12_readRule 8 = .ok (.putfield 191, 3) := by decide +kernel
theorem dX12_readRule_11 : decode cX12_readRule 11 = .ok (.aload_n 0, 1) := by decide +kernel
theorem dX12_readRule_12 : decode cX12_readRule 12 = .ok (.getfield 115, 3) := by decide +kernel
theorem dX12_readRule_15 : decode cX12_readRule 15 = .ok (.ifCond .le 9, 3) := by decide +kernel
theorem dX12_readRule_18 : decode cX12_readRule 18 = .ok (.aload_n 0, 1) := by decide +kernel
theorem dX12_readRule_19 : decode cX12_readRule 19 = .ok (.iconst 0, 1) := by decide +kernel
theorem dX12_readRule_20 : decode cX12_readRule 20 = .ok (.invokevirtual 181, 3) := by decide +kernel
theorem dX12_readRule_23 : decode cX12_readRule 23 = .ok (.pop, 1) := by decide +kernel
theorem dX12_readRule_24 : decode cX12_readRule 24 = .ok (.aload_n 0, 1) := by decide +kernel
theorem dX12_readRule_25 : decode cX12_readRule 25 = .ok (.invokevirtual 158, 3) := by decide +kernel
theorem dX12_readRule_28 : decode cX12_readRule 28 = .ok (.ireturn, 1) := by decide +kernel
theorem dX12_rule_0 : decode cX12_rule 0 = .ok (.aload_n 0, 1) := by decide +kernel
theorem dX12_rule_1 : decode cX12_rule 1 = .ok (.iconst 0, 1) := by decide +kernel
theorem dX12_rule_2 : decode cX12_rule 2 = .ok (.putfield 94, 3) := by decide +kernel
theorem dX12_rule_5 : decode cX12_rule 5 = .ok (.aload_n 0, 1) := by decide +kernel
theorem dX12_rule_6 : decode cX12_rule 6 = .ok (.getfield 109, 3) := by decide +kernel
theorem dX12_rule_9 : decode cX12_rule 9 = .ok (.istore_n 1, 1) := by decide +kernel
theorem dX12_rule_10 : decode cX12_rule 10 = .ok (.aload_n 0, 1) := by decide +kernel
theorem dX12_rule_11 : decode cX12_rule 11 = .ok (.invokevirtual 195, 3) := by decide +kernel
theorem dX12_rule_14 : decode cX12_rule 14 = .ok (.ifCond .ne 10, 3) := by decide +kernel
theorem dX12_rule_17 : decode cX12_rule 17 = .ok (.iconst (-1), 1) := by decide +kernel
theorem dX12_rule_18 : decode cX12_rule 18 = .ok (.aload_n 0, 1) := by decide +kernel
theorem dX12_rule_19 : decode cX12_rule 19 = .ok (.getfield 124, 3) := by decide +kernel
theorem dX12_rule_22 : decode cX12_rule 22 = .ok (.isub, 1) := by decide +kernel
theorem dX12_rule_23 : decode cX12_rule 23 = .ok (.ireturn, 1) := by decide +kernel
theorem dX12_rule_24 : decode cX12_rule 24 = .ok (.iconst 0, 1) := by decide +kernel
theorem dX12_rule_25 : decode cX12_rule 25 = .ok (.istore_n 2, 1) := by decide +kernel
theorem dX12_rule_26 : decode cX12_rule 26 = .ok (.iload_n 2, 1) := by decide +kernel
theorem dX12_rule_27 : decode cX12_rule 27 = .ok (.iload_n 1, 1) := by decide +kernel
theorem dX12_rule_28 : decode cX12_rule 28 = .ok (.if_icmp .ge 21, 3) := by decide +kernel
theorem dX12_rule_31 : decode cX12_rule 31 = .ok (.aload_n 0, 1) := by decide +kernel
theorem dX12_rule_32 : decode cX12_rule 32 = .ok (.getfield 24, 3) := by decide +kernel
theorem dX12_rule_35 : decode cX12_rule 35 = .ok (.iload_n 2, 1) := by decide +kernel
theorem dX12_rule_36 : decode cX12_rule 36 = .ok (.aload_n 0, 1) := by decide +kernel
theorem dX12_rule_37 : decode cX12_rule 37 = .ok (.getfield 13, 3) := by decide +kernel
theorem dX12_rule_40 : decode cX12_rule 40 = .ok (.iload_n 2, 1) := by decide +kernel
theorem dX12_rule_41 : decode cX12_rule 41 = .ok (.baload, 1) := by decide +kernel
theorem dX12_rule_42 : decode cX12_rule 42 = .ok (.bastore, 1) := by decide +kernel
theorem dX12_rule_43 : decode cX12_rule 43 = .ok (.iinc 2 1, 3) := by decide +kernel
theorem dX12_rule_46 : decode cX12_rule 46 = .ok (.goto (-20), 3) := by decide +kernel
theorem dX12_rule_49 : decode cX12_rule 49 = .ok (.aload_n 0, 1) := by decide +kernel
theorem dX12_rule_50 : decode cX12_rule 50 = .ok (.iload_n 1, 1) := by decide +kernel
theorem dX12_rule_51 : decode cX12_rule 51 = .ok (.putfield 198, 3) := by decide +kernel
theorem dX12_rule_54 : decode cX12_rule 54 = .ok (.aload_n 0, 1) := by decide +kernel
theorem dX12_rule_55 : decode cX12_rule 55 = .ok (.dup, 1) := by decide +kernel
theorem dX12_rule_56 : decode cX12_rule 56 = .ok (.getfield 201, 3) := by decide +kernel
theorem dX12_rule_59 : decode cX12_rule 59 = .ok (.iconst 1, 1) := by decide +kernel
theorem dX12_rule_60 : decode cX12_rule 60 = .ok (.iadd, 1) := by decide +kernel
theorem dX12_rule_61 : decode cX12_rule 61 = .ok (.putfield 201, 3) := by decide +kernel
theorem dX12_rule_64 : decode cX12_rule 64 = .ok (.iconst 0, 1) := by decide +kernel
theorem dX12_rule_65 : decode cX12_rule 65 = .ok (.ireturn, 1) := by decide +kernel
theorem dX12_ruleOf_0 : decode cX12_ruleOf 0 = .ok (.iconst 0, 1) := by decide +kernel
theorem dX12_ruleOf_1 : decode cX12_ruleOf 1 = .ok (.istore_n 3, 1) := by decide +kernel
