theorem dX12_ruleOf_2 : decode cX12_ruleOf 2 = .ok (.iload_n 3, 1) := by decide +kernel
theorem dX12_ruleOf_3 : decode cX12_ruleOf 3 = .ok (.bipush 7, 2) := by decide +kernel
theorem dX12_ruleOf_5 : decode cX12_ruleOf 5 = .ok (.if_icmp .ge 25, 3) := by decide +kernel
theorem dX12_ruleOf_8 : decode cX12_ruleOf 8 = .ok (.aload_n 0, 1) := by decide +kernel
theorem dX12_ruleOf_9 : decode cX12_ruleOf 9 = .ok (.getfield 30, 3) := by decide +kernel
theorem dX12_ruleOf_12 : decode cX12_ruleOf 12 = .ok (.iload_n 3, 1) := by decide +kernel
theorem dX12_ruleOf_13 : decode cX12_ruleOf 13 = .ok (.iload_n 3, 1) := by decide +kernel
theorem dX12_ruleOf_14 : decode cX12_ruleOf 14 = .ok (.iconst 5, 1) := by decide +kernel
theorem dX12_ruleOf_15 : decode cX12_ruleOf 15 = .ok (.if_icmp .ne 7, 3) := by decide +kernel
theorem dX12_ruleOf_18 : decode cX12_ruleOf 18 = .ok (.iconst 1, 1) := by decide +kernel
theorem dX12_ruleOf_19 : decode cX12_ruleOf 19 = .ok (.goto 4, 3) := by decide +kernel
theorem dX12_ruleOf_22 : decode cX12_ruleOf 22 = .ok (.iconst 0, 1) := by decide +kernel
theorem dX12_ruleOf_23 : decode cX12_ruleOf 23 = .ok (.iastore, 1) := by decide +kernel
theorem dX12_ruleOf_24 : decode cX12_ruleOf 24 = .ok (.iinc 3 1, 3) := by decide +kernel
theorem dX12_ruleOf_27 : decode cX12_ruleOf 27 = .ok (.goto (-25), 3) := by decide +kernel
theorem dX12_ruleOf_30 : decode cX12_ruleOf 30 = .ok (.iconst 0, 1) := by decide +kernel
theorem dX12_ruleOf_31 : decode cX12_ruleOf 31 = .ok (.istore_n 3, 1) := by decide +kernel
theorem dX12_ruleOf_32 : decode cX12_ruleOf 32 = .ok (.iconst 0, 1) := by decide +kernel
theorem dX12_ruleOf_33 : decode cX12_ruleOf 33 = .ok (.istore 4, 2) := by decide +kernel
theorem dX12_ruleOf_35 : decode cX12_ruleOf 35 = .ok (.iload 4, 2) := by decide +kernel
theorem dX12_ruleOf_37 : decode cX12_ruleOf 37 = .ok (.iconst 4, 1) := by decide +kernel
theorem dX12_ruleOf_38 : decode cX12_ruleOf 38 = .ok (.if_icmp .ge 149, 3) := by decide +kernel
theorem dX12_ruleOf_41 : decode cX12_ruleOf 41 = .ok (.aload_n 1, 1) := by decide +kernel
theorem dX12_ruleOf_42 : decode cX12_ruleOf 42 = .ok (.bipush 24, 2) := by decide +kernel
theorem dX12_ruleOf_44 : decode cX12_ruleOf 44 = .ok (.iload 4, 2) := by decide +kernel
theorem dX12_ruleOf_46 : decode cX12_ruleOf 46 = .ok (.iadd, 1) := by decide +kernel
theorem dX12_ruleOf_47 : decode cX12_ruleOf 47 = .ok (.iaload, 1) := by decide +kernel
theorem dX12_ruleOf_48 : decode cX12_ruleOf 48 = .ok (.ifCond .ne 6, 3) := by decide +kernel
theorem dX12_ruleOf_51 : decode cX12_ruleOf 51 = .ok (.goto 130, 3) := by decide +kernel
theorem dX12_ruleOf_54 : decode cX12_ruleOf 54 = .ok (.aload_n 1, 1) := by decide +kernel
theorem dX12_ruleOf_55 : decode cX12_ruleOf 55 = .ok (.bipush 6, 2) := by decide +kernel
theorem dX12_ruleOf_57 : decode cX12_ruleOf 57 = .ok (.iload 4, 2) := by decide +kernel
theorem dX12_ruleOf_59 : decode cX12_ruleOf 59 = .ok (.imul, 1) := by decide +kernel
theorem dX12_ruleOf_60 : decode cX12_ruleOf 60 = .ok (.aload_n 0, 1) := by decide +kernel
theorem dX12_ruleOf_61 : decode cX12_ruleOf 61 = .ok (.getfield 45, 3) := by decide +kernel
theorem dX12_ruleOf_64 : decode cX12_ruleOf 64 = .ok (.bipush 8, 2) := by decide +kernel
theorem dX12_ruleOf_66 : decode cX12_ruleOf 66 = .ok (.iload_n 2, 1) := by decide +kernel
theorem dX12_ruleOf_67 : decode cX12_ruleOf 67 = .ok (.imul, 1) := by decide +kernel
theorem dX12_ruleOf_68 : decode cX12_ruleOf 68 = .ok (.iload_n 3, 1) := by decide +kernel
theorem dX12_ruleOf_69 : decode cX12_ruleOf 69 = .ok (.iadd, 1) := by decide +kernel
theorem dX12_ruleOf_70 : decode cX12_ruleOf 70 = .ok (.iaload, 1) := by decide +kernel
theorem dX12_ruleOf_71 : decode cX12_ruleOf 71 = .ok (.iadd, 1) := by decide +kernel
theorem dX12_ruleOf_72 : decode cX12_ruleOf 72 = .ok (.iaload, 1) := by decide +kernel
theorem dX12_ruleOf_73 : decode cX12_ruleOf 73 = .ok (.istore 5, 2) := by decide +kernel
theorem dX12_ruleOf_75 : decode cX12_ruleOf 75 = .ok (.aload_n 0, 1) := by decide +kernel
theorem dX12_ruleOf_76 : decode cX12_ruleOf 76 = .ok (.getfield 30, 3) := by decide +kernel
theorem dX12_ruleOf_79 : decode cX12_ruleOf 79 = .ok (.iconst 0, 1) := by decide +kernel
theorem dX12_ruleOf_80 : decode cX12_ruleOf 80 = .ok (.dup2, 1) := by decide +kernel
theorem dX12_ruleOf_81 : decode cX12_ruleOf 81 = .ok (.iaload, 1) := by decide +kernel
theorem dX12_ruleOf_82 : decode cX12_ruleOf 82 = .ok (.iload 5, 2) := by decide +kernel
theorem dX12_ruleOf_84 : decode cX12_ruleOf 84 = .ok (.iadd, 1) := by decide +kernel
theorem dX12_ruleOf_85 : decode cX12_ruleOf 85 = .ok (.iastore, 1) := by decide +kernel
theorem dX12_ruleOf_86 : decode cX12_ruleOf 86 = .ok (.aload_n 0, 1) := by decide +kernel
theorem dX12_ruleOf_87 : decode cX12_ruleOf 87 = .ok (.getfield 30, 3) := by decide +kernel
theorem dX12_ruleOf_90 : decode cX12_ruleOf 90 = .ok (.iconst 1, 1) := by decide +kernel
theorem dX12_ruleOf_91 : decode cX12_ruleOf 91 = .ok (.iload_n 3, 1) := by decide +kernel
theorem dX12_ruleOf_92 : decode cX12_ruleOf 92 = .ok (.ifCond .ne 8, 3) := by decide +kernel
theorem dX12_ruleOf_95 : decode cX12_ruleOf 95 = .ok (.iload 5, 2) := by decide +kernel
theorem dX12_ruleOf_97 : decode cX12_ruleOf 97 = .ok (.goto 14, 3) := by decide +kernel
theorem dX12_ruleOf_100 : decode cX12_ruleOf 100 = .ok (.aload_n 0, 1) := by decide +kernel
theorem dX12_ruleOf_101 : decode cX12_ruleOf 101 = .ok (.getfield 30, 3) := by decide +kernel
theorem dX12_ruleOf_104 : decode cX12_ruleOf 104 = .ok (.iconst 1, 1) := by decide +kernel
theorem dX12_ruleOf_105 : decode cX12_ruleOf 105 = .ok (.iaload, 1) := by decide +kernel
theorem dX12_ruleOf_106 : decode cX12_ruleOf 106 = .ok (.iload 5, 2) := by decide +kernel
theorem dX12_ruleOf_108 : decode cX12_ruleOf 108 = .ok (.invokestatic 204, 3) := by decide +kernel
theorem dX12_ruleOf_111 : decode cX12_ruleOf 111 = .ok (.iastore, 1) := by decide +kernel
theorem dX12_ruleOf_112 : decode cX12_ruleOf 112 = .ok (.aload_n 0, 1) := by decide +kernel
theorem dX12_ruleOf_113 : decode cX12_ruleOf 113 = .ok (.getfield 30, 3) := by decide +kernel
theorem dX12_ruleOf_116 : decode cX12_ruleOf 116 = .ok (.iconst 2, 1) := by decide +kernel
theorem dX12_ruleOf_117 : decode cX12_ruleOf 117 = .ok (.iload_n 3, 1) := by decide +kernel
theorem dX12_ruleOf_118 : decode cX12_ruleOf 118 = .ok (.ifCond .ne 8, 3) := by decide +kernel
theorem dX12_ruleOf_121 : decode cX12_ruleOf 121 = .ok (.iload 5, 2) := by decide +kernel
theorem dX12_ruleOf_123 : decode cX12_ruleOf 123 = .ok (.goto 14, 3) := by decide +kernel
theorem dX12_ruleOf_126 : decode cX12_ruleOf 126 = .ok (.aload_n 0, 1) := by decide +kernel
theorem dX12_ruleOf_127 : decode cX12_ruleOf 127 = .ok (.getfield 30, 3) := by decide +kernel
theorem dX12_ruleOf_130 : decode cX12_ruleOf 130 = .ok (.iconst 2, 1) := by decide +kernel
theorem dX12_ruleOf_131 : decode cX12_ruleOf 131 = .ok (.iaload, 1) := by decide +kernel
theorem dX12_ruleOf_132 : decode cX12_ruleOf 132 = .ok (.iload 5, 2) := by decide +kernel
theorem dX12_ruleOf_134 : decode cX12_ruleOf 134 = .ok (.invokestatic 210, 3) := by decide +kernel
theorem dX12_ruleOf_137 : decode cX12_ruleOf 137 = .ok (.iastore, 1) := by decide +kernel
theorem dX12_ruleOf_138 : decode cX12_ruleOf 138 = .ok (.aload_n 0, 1) := by decide +kernel
theorem dX12_ruleOf_139 : decode cX12_ruleOf 139 = .ok (.getfield 30, 3) := by decide +kernel
theorem dX12_ruleOf_142 : decode cX12_ruleOf 142 = .ok (.iconst 3, 1) := by decide +kernel
theorem dX12_ruleOf_143 : decode cX12_ruleOf 143 = .ok (.iload_n 3, 1) := by decide +kernel
theorem dX12_ruleOf_144 : decode cX12_ruleOf 144 = .ok (.ifCond .ne 8, 3) := by decide +kernel
theorem dX12_ruleOf_147 : decode cX12_ruleOf 147 = .ok (.iload 5, 2) := by decide +kernel
theorem dX12_ruleOf_149 : decode cX12_ruleOf 149 = .ok (.goto 9, 3) := by decide +kernel
theorem dX12_ruleOf_152 : decode cX12_ruleOf 152 = .ok (.aload_n 0, 1) := by decide +kernel
theorem dX12_ruleOf_153 : decode cX12_ruleOf 153 = .ok (.getfield 30, 3) := by decide +kernel
theorem dX12_ruleOf_156 : decode cX12_ruleOf 156 = .ok (.iconst 3, 1) := by decide +kernel
theorem dX12_ruleOf_157 : decode cX12_ruleOf 157 = .ok (.iaload, 1) := by decide +kernel
theorem dX12_ruleOf_158 : decode cX12_ruleOf 158 = .ok (.iastore, 1) := by decide +kernel
theorem dX12_ruleOf_159 : decode cX12_ruleOf 159 = .ok (.aload_n 0, 1) := by decide +kernel
theorem dX12_ruleOf_160 : decode cX12_ruleOf 160 = .ok (.getfield 30, 3) := by decide +kernel
theorem dX12_ruleOf_163 : decode cX12_ruleOf 163 = .ok (.iconst 4, 1) := by decide +kernel
theorem dX12_ruleOf_164 : decode cX12_ruleOf 164 = .ok (.iload 5, 2) := by decide +kernel
theorem dX12_ruleOf_166 : decode cX12_ruleOf 166 = .ok (.iastore, 1) := by decide +kernel
theorem dX12_ruleOf_167 : decode cX12_ruleOf 167 = .ok (.aload_n 0, 1) := by decide +kernel
theorem dX12_ruleOf_168 : decode cX12_ruleOf 168 = .ok (.getfield 30, 3) := by decide +kernel
theorem dX12_ruleOf_171 : decode cX12_ruleOf 171 = .ok (.iconst 5, 1) := by decide +kernel
theorem dX12_ruleOf_172 : decode cX12_ruleOf 172 = .ok (.dup2, 1) := by decide +kernel
theorem dX12_ruleOf_173 : decode cX12_ruleOf 173 = .ok (.iaload, 1) := by decide +kernel
theorem dX12_ruleOf_174 : decode cX12_ruleOf 174 = .ok (.iload 5, 2) := by decide +kernel
theorem dX12_ruleOf_176 : decode cX12_ruleOf 176 = .ok (.imul, 1) := by decide +kernel
theorem dX12_ruleOf_177 : decode cX12_ruleOf 177 = .ok (.iastore, 1) := by decide +kernel
theorem dX12_ruleOf_178 : decode cX12_ruleOf 178 = .ok (.iinc 3 1, 3) := by decide +kernel
theorem dX12_ruleOf_181 : decode cX12_ruleOf 181 = .ok (.iinc 4 1, 3) := by decide +kernel
theorem dX12_ruleOf_184 : decode cX12_ruleOf 184 = .ok (.goto (-149), 3) := by decide +kernel
theorem dX12_ruleOf_187 : decode cX12_ruleOf 187 = .ok (.aload_n 0, 1) := by decide +kernel
theorem dX12_ruleOf_188 : decode cX12_ruleOf 188 = .ok (.getfield 30, 3) := by decide +kernel
theorem dX12_ruleOf_191 : decode cX12_ruleOf 191 = .ok (.bipush 6, 2) := by decide +kernel
theorem dX12_ruleOf_193 : decode cX12_ruleOf 193 = .ok (.iload_n 3, 1) := by decide +kernel
theorem dX12_ruleOf_194 : decode cX12_ruleOf 194 = .ok (.iastore, 1) := by decide +kernel
theorem dX12_ruleOf_195 : decode cX12_ruleOf 195 = .ok (.aload_n 0, 1) := by decide +kernel
theorem dX12_ruleOf_196 : decode cX12_ruleOf 196 = .ok (.getfield 198, 3) := by decide +kernel
theorem dX12_ruleOf_199 : decode cX12_ruleOf 199 = .ok (.ifCond .ne 10, 3) := by decide +kernel
theorem dX12_ruleOf_202 : decode cX12_ruleOf 202 = .ok (.aload_n 0, 1) := by decide +kernel
theorem dX12_ruleOf_203 : decode cX12_ruleOf 203 = .ok (.getfield 30, 3) := by decide +kernel
theorem dX12_ruleOf_206 : decode cX12_ruleOf 206 = .ok (.iconst 0, 1) := by decide +kernel
theorem dX12_ruleOf_207 : decode cX12_ruleOf 207 = .ok (.iaload, 1) := by decide +kernel
theorem dX12_ruleOf_208 : decode cX12_ruleOf 208 = .ok (.ireturn, 1) := by decide +kernel
theorem dX12_ruleOf_209 : decode cX12_ruleOf 209 = .ok (.aload_n 0, 1) := by decide +kernel
theorem dX12_ruleOf_210 : decode cX12_ruleOf 210 = .ok (.aload_n 0, 1) := by decide +kernel
theorem dX12_ruleOf_211 : decode cX12_ruleOf 211 = .ok (.getfield 24, 3) := by decide +kernel
theorem dX12_ruleOf_214 : decode cX12_ruleOf 214 = .ok (.aload_n 0, 1) := by decide +kernel
theorem dX12_ruleOf_215 : decode cX12_ruleOf 215 = .ok (.getfield 198, 3) := by decide +kernel
theorem dX12_ruleOf_218 : decode cX12_ruleOf 218 = .ok (.bipush 40, 2) := by decide +kernel
theorem dX12_ruleOf_220 : decode cX12_ruleOf 220 = .ok (.invokevirtual 127, 3) := by decide +kernel
theorem dX12_ruleOf_223 : decode cX12_ruleOf 223 = .ok (.aload_n 0, 1) := by decide +kernel
theorem dX12_ruleOf_224 : decode cX12_ruleOf 224 = .ok (.iconst 1, 1) := by decide +kernel
theorem dX12_ruleOf_225 : decode cX12_ruleOf 225 = .ok (.putfield 191, 3) := by decide +kernel
theorem dX12_ruleOf_228 : decode cX12_ruleOf 228 = .ok (.aload_n 0, 1) := by decide +kernel
theorem dX12_ruleOf_229 : decode cX12_ruleOf 229 = .ok (.iconst 0, 1) := by decide +kernel
theorem dX12_ruleOf_230 : decode cX12_ruleOf 230 = .ok (.invokevirtual 181, 3) := by decide +kernel
theorem dX12_ruleOf_233 : decode cX12_ruleOf 233 = .ok (.istore 4, 2) := by decide +kernel
theorem dX12_ruleOf_235 : decode cX12_ruleOf 235 = .ok (.aload_n 0, 1) := by decide +kernel
theorem dX12_ruleOf_236 : decode cX12_ruleOf 236 = .ok (.iconst 0, 1) := by decide +kernel
theorem dX12_ruleOf_237 : decode cX12_ruleOf 237 = .ok (.putfield 191, 3) := by decide +kernel
theorem dX12_ruleOf_240 : decode cX12_ruleOf 240 = .ok (.iload 4, 2) := by decide +kernel
theorem dX12_ruleOf_242 : decode cX12_ruleOf 242 = .ok (.ireturn, 1) := by decide +kernel
theorem dX12_number__0 : decode cX12_number_ 0 = .ok (.aload_n 0, 1) := by decide +kernel
theorem dX12_number__1 : decode cX12_number_ 1 = .ok (.iconst 0, 1) := by decide +kernel
theorem dX12_number__2 : decode cX12_number_ 2 = .ok (.putfield 94, 3) := by decide +kernel
theorem dX12_number__5 : decode cX12_number_ 5 = .ok (.iload_n 1, 1) := by decide +kernel
theorem dX12_number__6 : decode cX12_number_ 6 = .ok (.invokestatic 161, 3) := by decide +kernel
theorem dX12_number__9 : decode cX12_number_ 9 = .ok (.ifCond .eq 36, 3) := by decide +kernel
theorem dX12_number__12 : decode cX12_number_ 12 = .ok (.iload_n 2, 1) := by decide +kernel
theorem dX12_number__13 : decode cX12_number_ 13 = .ok (.iconst 0, 1) := by decide +kernel
theorem dX12_number__14 : decode cX12_number_ 14 = .ok (.aload_n 0, 1) := by decide +kernel
theorem dX12_number__15 : decode cX12_number_ 15 = .ok (.getfield 9, 3) := by decide +kernel
theorem dX12_number__18 : decode cX12_number_ 18 = .ok (.bipush 24, 2) := by decide +kernel
theorem dX12_number__20 : decode cX12_number_ 20 = .ok (.iload_n 1, 1) := by decide +kernel
theorem dX12_number__21 : decode cX12_number_ 21 = .ok (.iadd, 1) := by decide +kernel
theorem dX12_number__22 : decode cX12_number_ 22 = .ok (.iaload, 1) := by decide +kernel
theorem dX12_number__23 : decode cX12_number_ 23 = .ok (.iconst 1, 1) := by decide +kernel
theorem dX12_number__24 : decode cX12_number_ 24 = .ok (.isub, 1) := by decide +kernel
theorem dX12_number__25 : decode cX12_number_ 25 = .ok (.invokestatic 101, 3) := by decide +kernel
theorem dX12_number__28 : decode cX12_number_ 28 = .ok (.ifCond .eq 17, 3) := by decide +kernel
theorem dX12_number__31 : decode cX12_number_ 31 = .ok (.aload_n 0, 1) := by decide +kernel
theorem dX12_number__32 : decode cX12_number_ 32 = .ok (.getfield 9, 3) := by decide +kernel
theorem dX12_number__35 : decode cX12_number_ 35 = .ok (.bipush 6, 2) := by decide +kernel
theorem dX12_number__37 : decode cX12_number_ 37 = .ok (.iload_n 1, 1) := by decide +kernel
theorem dX12_number__38 : decode cX12_number_ 38 = .ok (.imul, 1) := by decide +kernel
theorem dX12_number__39 : decode cX12_number_ 39 = .ok (.iload_n 2, 1) := by decide +kernel
theorem dX12_number__40 : decode cX12_number_ 40 = .ok (.iadd, 1) := by decide +kernel
theorem dX12_number__41 : decode cX12_number_ 41 = .ok (.iaload, 1) := by decide +kernel
theorem dX12_number__42 : decode cX12_number_ 42 = .ok (.goto 7, 3) := by decide +kernel
theorem dX12_number__45 : decode cX12_number_ 45 = .ok (.aload_n 0, 1) := by decide +kernel
theorem dX12_number__46 : decode cX12_number_ 46 = .ok (.invokevirtual 213, 3) := by decide +kernel
theorem dX12_number__49 : decode cX12_number_ 49 = .ok (.ireturn, 1) := by decide +kernel
theorem dX12_edge_0 : decode cX12_edge 0 = .ok (.aload_n 0, 1) := by decide +kernel
theorem dX12_edge_1 : decode cX12_edge 1 = .ok (.iconst 0, 1) := by decide +kernel
theorem dX12_edge_2 : decode cX12_edge 2 = .ok (.putfield 94, 3) := by decide +kernel
theorem dX12_edge_5 : decode cX12_edge 5 = .ok (.iload_n 1, 1) := by decide +kernel
theorem dX12_edge_6 : decode cX12_edge 6 = .ok (.iconst 0, 1) := by decide +kernel
theorem dX12_edge_7 : decode cX12_edge 7 = .ok (.aload_n 0, 1) := by decide +kernel
theorem dX12_edge_8 : decode cX12_edge 8 = .ok (.getfield 9, 3) := by decide +kernel
theorem dX12_edge_11 : decode cX12_edge 11 = .ok (.invokestatic 216, 3) := by decide +kernel
theorem dX12_edge_14 : decode cX12_edge 14 = .ok (.iconst 1, 1) := by decide +kernel
theorem dX12_edge_15 : decode cX12_edge 15 = .ok (.isub, 1) := by decide +kernel
theorem dX12_edge_16 : decode cX12_edge 16 = .ok (.invokestatic 101, 3) := by decide +kernel
theorem dX12_edge_19 : decode cX12_edge 19 = .ok (.ifCond .eq 12, 3) := by decide +kernel
theorem dX12_edge_22 : decode cX12_edge 22 = .ok (.iload_n 2, 1) := by decide +kernel
theorem dX12_edge_23 : decode cX12_edge 23 = .ok (.iconst 0, 1) := by decide +kernel
theorem dX12_edge_24 : decode cX12_edge 24 = .ok (.iconst 2, 1) := by decide +kernel
theorem dX12_edge_25 : decode cX12_edge 25 = .ok (.invokestatic 101, 3) := by decide +kernel
theorem dX12_edge_28 : decode cX12_edge 28 = .ok (.ifCond .ne 8, 3) := by decide +kernel
theorem dX12_edge_31 : decode cX12_edge 31 = .ok (.aload_n 0, 1) := by decide +kernel
theorem dX12_edge_32 : decode cX12_edge 32 = .ok (.invokevirtual 213, 3) := by decide +kernel
theorem dX12_edge_35 : decode cX12_edge 35 = .ok (.ireturn, 1) := by decide +kernel
theorem dX12_edge_36 : decode cX12_edge 36 = .ok (.aload_n 0, 1) := by decide +kernel
theorem dX12_edge_37 : decode cX12_edge 37 = .ok (.getfield 9, 3) := by decide +kernel
theorem dX12_edge_40 : decode cX12_edge 40 = .ok (.iload_n 1, 1) := by decide +kernel
theorem dX12_edge_41 : decode cX12_edge 41 = .ok (.invokestatic 220, 3) := by decide +kernel
theorem dX12_edge_44 : decode cX12_edge 44 = .ok (.istore_n 3, 1) := by decide +kernel
theorem dX12_edge_45 : decode cX12_edge 45 = .ok (.iload_n 2, 1) := by decide +kernel
theorem dX12_edge_46 : decode cX12_edge 46 = .ok (.ifCond .ne 10, 3) := by decide +kernel
theorem dX12_edge_49 : decode cX12_edge 49 = .ok (.iload_n 3, 1) := by decide +kernel
theorem dX12_edge_50 : decode cX12_edge 50 = .ok (.bipush 7, 2) := by decide +kernel
theorem dX12_edge_52 : decode cX12_edge 52 = .ok (.idiv, 1) := by decide +kernel
theorem dX12_edge_53 : decode cX12_edge 53 = .ok (.goto 24, 3) := by decide +kernel
theorem dX12_edge_56 : decode cX12_edge 56 = .ok (.iload_n 2, 1) := by decide +kernel
theorem dX12_edge_57 : decode cX12_edge 57 = .ok (.iconst 1, 1) := by decide +kernel
theorem dX12_edge_58 : decode cX12_edge 58 = .ok (.if_icmp .ne 10, 3) := by decide +kernel
theorem dX12_edge_61 : decode cX12_edge 61 = .ok (.iload_n 3, 1) := by decide +kernel
theorem dX12_edge_62 : decode cX12_edge 62 = .ok (.bipush 7, 2) := by decide +kernel
theorem dX12_edge_64 : decode cX12_edge 64 = .ok (.irem, 1) := by decide +kernel
theorem dX12_edge_65 : decode cX12_edge 65 = .ok (.goto 12, 3) := by decide +kernel
theorem dX12_edge_68 : decode cX12_edge 68 = .ok (.aload_n 0, 1) := by decide +kernel
theorem dX12_edge_69 : decode cX12_edge 69 = .ok (.getfield 9, 3) := by decide +kernel
theorem dX12_edge_72 : decode cX12_edge 72 = .ok (.bipush 28, 2) := by decide +kernel
theorem dX12_edge_74 : decode cX12_edge 74 = .ok (.iload_n 3, 1) := by decide +kernel
theorem dX12_edge_75 : decode cX12_edge 75 = .ok (.iadd, 1) := by decide +kernel
theorem dX12_edge_76 : decode cX12_edge 76 = .ok (.iaload, 1) := by decide +kernel
theorem dX12_edge_77 : decode cX12_edge 77 = .ok (.ireturn, 1) := by decide +kernel
theorem dX12_weigh_0 : decode cX12_weigh 0 = .ok (.aload_n 0, 1) := by decide +kernel
theorem dX12_weigh_1 : decode cX12_weigh 1 = .ok (.bipush 28, 2) := by decide +kernel
theorem dX12_weigh_3 : decode cX12_weigh 3 = .ok (.bipush 7, 2) := by decide +kernel
theorem dX12_weigh_5 : decode cX12_weigh 5 = .ok (.iload_n 1, 1) := by decide +kernel
theorem dX12_weigh_6 : decode cX12_weigh 6 = .ok (.imul, 1) := by decide +kernel
theorem dX12_weigh_7 : decode cX12_weigh 7 = .ok (.iadd, 1) := by decide +kernel
theorem dX12_weigh_8 : decode cX12_weigh 8 = .ok (.iload_n 2, 1) := by decide +kernel
theorem dX12_weigh_9 : decode cX12_weigh 9 = .ok (.iadd, 1) := by decide +kernel
theorem dX12_weigh_10 : decode cX12_weigh 10 = .ok (.iload_n 3, 1) := by decide +kernel
theorem dX12_weigh_11 : decode cX12_weigh 11 = .ok (.iastore, 1) := by decide +kernel
theorem dX12_weigh_12 : decode cX12_weigh 12 = .ok (.aload_n 0, 1) := by decide +kernel
theorem dX12_weigh_13 : decode cX12_weigh 13 = .ok (.bipush 28, 2) := by decide +kernel
theorem dX12_weigh_15 : decode cX12_weigh 15 = .ok (.bipush 7, 2) := by decide +kernel
theorem dX12_weigh_17 : decode cX12_weigh 17 = .ok (.iload_n 2, 1) := by decide +kernel
theorem dX12_weigh_18 : decode cX12_weigh 18 = .ok (.imul, 1) := by decide +kernel
theorem dX12_weigh_19 : decode cX12_weigh 19 = .ok (.iadd, 1) := by decide +kernel
theorem dX12_weigh_20 : decode cX12_weigh 20 = .ok (.iload_n 1, 1) := by decide +kernel
theorem dX12_weigh_21 : decode cX12_weigh 21 = .ok (.iadd, 1) := by decide +kernel
theorem dX12_weigh_22 : decode cX12_weigh 22 = .ok (.iload_n 3, 1) := by decide +kernel
theorem dX12_weigh_23 : decode cX12_weigh 23 = .ok (.iastore, 1) := by decide +kernel
theorem dX12_weigh_24 : decode cX12_weigh 24 = .ok (.return_, 1) := by decide +kernel
theorem dX12_sheet_0 : decode cX12_sheet 0 = .ok (.aload_n 0, 1) := by decide +kernel
theorem dX12_sheet_1 : decode cX12_sheet 1 = .ok (.iconst 0, 1) := by decide +kernel
theorem dX12_sheet_2 : decode cX12_sheet 2 = .ok (.putfield 94, 3) := by decide +kernel
theorem dX12_sheet_5 : decode cX12_sheet 5 = .ok (.iload_n 1, 1) := by decide +kernel
theorem dX12_sheet_6 : decode cX12_sheet 6 = .ok (.iconst 0, 1) := by decide +kernel
theorem dX12_sheet_7 : decode cX12_sheet 7 = .ok (.iconst 3, 1) := by decide +kernel
theorem dX12_sheet_8 : decode cX12_sheet 8 = .ok (.invokestatic 101, 3) := by decide +kernel
theorem dX12_sheet_11 : decode cX12_sheet 11 = .ok (.ifCond .eq 9, 3) := by decide +kernel
theorem dX12_sheet_14 : decode cX12_sheet 14 = .ok (.iload_n 2, 1) := by decide +kernel
theorem dX12_sheet_15 : decode cX12_sheet 15 = .ok (.bipush 12, 2) := by decide +kernel
theorem dX12_sheet_17 : decode cX12_sheet 17 = .ok (.if_icmp .le 5, 3) := by decide +kernel
theorem dX12_sheet_20 : decode cX12_sheet 20 = .ok (.iconst (-1), 1) := by decide +kernel
theorem dX12_sheet_21 : decode cX12_sheet 21 = .ok (.ireturn, 1) := by decide +kernel
theorem dX12_sheet_22 : decode cX12_sheet 22 = .ok (.iload_n 1, 1) := by decide +kernel
theorem dX12_sheet_23 : decode cX12_sheet 23 = .ok (.iconst 3, 1) := by decide +kernel
theorem dX12_sheet_24 : decode cX12_sheet 24 = .ok (.if_icmp .ge 10, 3) := by decide +kernel
theorem dX12_sheet_27 : decode cX12_sheet 27 = .ok (.iload_n 2, 1) := by decide +kernel
theorem dX12_sheet_28 : decode cX12_sheet 28 = .ok (.ifCond .ge 6, 3) := by decide +kernel
theorem dX12_sheet_31 : decode cX12_sheet 31 = .ok (.bipush (-2), 2) := by decide +kernel
theorem dX12_sheet_33 : decode cX12_sheet 33 = .ok (.ireturn, 1) := by decide +kernel
theorem dX12_sheet_34 : decode cX12_sheet 34 = .ok (.iload_n 3, 1) := by decide +kernel
theorem dX12_sheet_35 : decode cX12_sheet 35 = .ok (.istore 5, 2) := by decide +kernel
theorem dX12_sheet_37 : decode cX12_sheet 37 = .ok (.iconst 0, 1) := by decide +kernel
theorem dX12_sheet_38 : decode cX12_sheet 38 = .ok (.istore 6, 2) := by decide +kernel
theorem dX12_sheet_40 : decode cX12_sheet 40 = .ok (.aload_n 0, 1) := by decide +kernel
theorem dX12_sheet_41 : decode cX12_sheet 41 = .ok (.getfield 9, 3) := by decide +kernel
theorem dX12_sheet_44 : decode cX12_sheet 44 = .ok (.invokestatic 216, 3) := by decide +kernel
theorem dX12_sheet_47 : decode cX12_sheet 47 = .ok (.istore 7, 2) := by decide +kernel
theorem dX12_sheet_49 : decode cX12_sheet 49 = .ok (.iconst 0, 1) := by decide +kernel
theorem dX12_sheet_50 : decode cX12_sheet 50 = .ok (.istore 8, 2) := by decide +kernel
theorem dX12_sheet_52 : decode cX12_sheet 52 = .ok (.iload 8, 2) := by decide +kernel
theorem dX12_sheet_54 : decode cX12_sheet 54 = .ok (.iload 7, 2) := by decide +kernel
theorem dX12_sheet_56 : decode cX12_sheet 56 = .ok (.if_icmp .ge 106, 3) := by decide +kernel
theorem dX12_sheet_59 : decode cX12_sheet 59 = .ok (.iload_n 1, 1) := by decide +kernel
theorem dX12_sheet_60 : decode cX12_sheet 60 = .ok (.ifCond .ne 9, 3) := by decide +kernel
theorem dX12_sheet_63 : decode cX12_sheet 63 = .ok (.iload 5, 2) := by decide +kernel
theorem dX12_sheet_65 : decode cX12_sheet 65 = .ok (.i2b, 1) := by decide +kernel
theorem dX12_sheet_66 : decode cX12_sheet 66 = .ok (.goto 16, 3) := by decide +kernel
theorem dX12_sheet_69 : decode cX12_sheet 69 = .ok (.iload_n 1, 1) := by decide +kernel
theorem dX12_sheet_70 : decode cX12_sheet 70 = .ok (.iconst 1, 1) := by decide +kernel
theorem dX12_sheet_71 : decode cX12_sheet 71 = .ok (.if_icmp .ne 9, 3) := by decide +kernel
theorem dX12_sheet_74 : decode cX12_sheet 74 = .ok (.iload 5, 2) := by decide +kernel
theorem dX12_sheet_76 : decode cX12_sheet 76 = .ok (.i2s, 1) := by decide +kernel
theorem dX12_sheet_77 : decode cX12_sheet 77 = .ok (.goto 5, 3) := by decide +kernel
theorem dX12_sheet_80 : decode cX12_sheet 80 = .ok (.iload 5, 2) := by decide +kernel
theorem dX12_sheet_82 : decode cX12_sheet 82 = .ok (.istore 9, 2) := by decide +kernel
theorem dX12_sheet_84 : decode cX12_sheet 84 = .ok (.iload_n 1, 1) := by decide +kernel
theorem dX12_sheet_85 : decode cX12_sheet 85 = .ok (.iconst 3, 1) := by decide +kernel
theorem dX12_sheet_86 : decode cX12_sheet 86 = .ok (.if_icmp .eq 9, 3) := by decide +kernel
theorem dX12_sheet_89 : decode cX12_sheet 89 = .ok (.iload 8, 2) := by decide +kernel
theorem dX12_sheet_91 : decode cX12_sheet 91 = .ok (.iload_n 2, 1) := by decide +kernel
theorem dX12_sheet_92 : decode cX12_sheet 92 = .ok (.if_icmp .lt 7, 3) := by decide +kernel
theorem dX12_sheet_95 : decode cX12_sheet 95 = .ok (.iconst 1, 1) := by decide +kernel
theorem dX12_sheet_96 : decode cX12_sheet 96 = .ok (.goto 14, 3) := by decide +kernel
theorem dX12_sheet_99 : decode cX12_sheet 99 = .ok (.iconst 1, 1) := by decide +kernel
theorem dX12_sheet_100 : decode cX12_sheet 100 = .ok (.bipush 99, 2) := by decide +kernel
theorem dX12_sheet_102 : decode cX12_sheet 102 = .ok (.iload 9, 2) := by decide +kernel
theorem dX12_sheet_104 : decode cX12_sheet 104 = .ok (.invokestatic 210, 3) := by decide +kernel
theorem dX12_sheet_107 : decode cX12_sheet 107 = .ok (.invokestatic 204, 3) := by decide +kernel
theorem dX12_sheet_110 : decode cX12_sheet 110 = .ok (.istore 10, 2) := by decide +kernel
theorem dX12_sheet_112 : decode cX12_sheet 112 = .ok (.aload_n 0, 1) := by decide +kernel
theorem dX12_sheet_113 : decode cX12_sheet 113 = .ok (.getfield 9, 3) := by decide +kernel
theorem dX12_sheet_116 : decode cX12_sheet 116 = .ok (.iload 8, 2) := by decide +kernel
theorem dX12_sheet_118 : decode cX12_sheet 118 = .ok (.invokestatic 220, 3) := by decide +kernel
theorem dX12_sheet_121 : decode cX12_sheet 121 = .ok (.istore 11, 2) := by decide +kernel
theorem dX12_sheet_123 : decode cX12_sheet 123 = .ok (.aload_n 0, 1) := by decide +kernel
theorem dX12_sheet_124 : decode cX12_sheet 124 = .ok (.getfield 9, 3) := by decide +kernel
theorem dX12_sheet_127 : decode cX12_sheet 127 = .ok (.iload 11, 2) := by decide +kernel
theorem dX12_sheet_129 : decode cX12_sheet 129 = .ok (.bipush 7, 2) := by decide +kernel
theorem dX12_sheet_131 : decode cX12_sheet 131 = .ok (.idiv, 1) := by decide +kernel
theorem dX12_sheet_132 : decode cX12_sheet 132 = .ok (.iload 11, 2) := by decide +kernel
theorem dX12_sheet_134 : decode cX12_sheet 134 = .ok (.bipush 7, 2) := by decide +kernel
theorem dX12_sheet_136 : decode cX12_sheet 136 = .ok (.irem, 1) := by decide +kernel
theorem dX12_sheet_137 : decode cX12_sheet 137 = .ok (.iload 10, 2) := by decide +kernel
theorem dX12_sheet_139 : decode cX12_sheet 139 = .ok (.invokestatic 224, 3) := by decide +kernel
theorem dX12_sheet_142 : decode cX12_sheet 142 = .ok (.iload 6, 2) := by decide +kernel
theorem dX12_sheet_144 : decode cX12_sheet 144 = .ok (.iload 10, 2) := by decide +kernel
theorem dX12_sheet_146 : decode cX12_sheet 146 = .ok (.iadd, 1) := by decide +kernel
theorem dX12_sheet_147 : decode cX12_sheet 147 = .ok (.istore 6, 2) := by decide +kernel
theorem dX12_sheet_149 : decode cX12_sheet 149 = .ok (.iload 5, 2) := by decide +kernel
theorem dX12_sheet_151 : decode cX12_sheet 151 = .ok (.iload 4, 2) := by decide +kernel
theorem dX12_sheet_153 : decode cX12_sheet 153 = .ok (.iadd, 1) := by decide +kernel
theorem dX12_sheet_154 : decode cX12_sheet 154 = .ok (.istore 5, 2) := by decide +kernel
theorem dX12_sheet_156 : decode cX12_sheet 156 = .ok (.iinc 8 1, 3) := by decide +kernel
theorem dX12_sheet_159 : decode cX12_sheet 159 = .ok (.goto (-107), 3) := by decide +kernel
theorem dX12_sheet_162 : decode cX12_sheet 162 = .ok (.aload_n 0, 1) := by decide +kernel
theorem dX12_sheet_163 : decode cX12_sheet 163 = .ok (.dup, 1) := by decide +kernel
theorem dX12_sheet_164 : decode cX12_sheet 164 = .ok (.getfield 201, 3) := by decide +kernel
theorem dX12_sheet_167 : decode cX12_sheet 167 = .ok (.iconst 1, 1) := by decide +kernel
theorem dX12_sheet_168 : decode cX12_sheet 168 = .ok (.iadd, 1) := by decide +kernel
theorem dX12_sheet_169 : decode cX12_sheet 169 = .ok (.putfield 201, 3) := by decide +kernel
theorem dX12_sheet_172 : decode cX12_sheet 172 = .ok (.iload_n 1, 1) := by decide +kernel
theorem dX12_sheet_173 : decode cX12_sheet 173 = .ok (.iconst 3, 1) := by decide +kernel
theorem dX12_sheet_174 : decode cX12_sheet 174 = .ok (.if_icmp .ne 8, 3) := by decide +kernel
theorem dX12_sheet_177 : decode cX12_sheet 177 = .ok (.bipush (-3), 2) := by decide +kernel
theorem dX12_sheet_179 : decode cX12_sheet 179 = .ok (.goto 5, 3) := by decide +kernel
theorem dX12_sheet_182 : decode cX12_sheet 182 = .ok (.iload 6, 2) := by decide +kernel
theorem dX12_sheet_184 : decode cX12_sheet 184 = .ok (.ireturn, 1) := by decide +kernel
theorem dX12_lay_0 : decode cX12_lay 0 = .ok (.iconst 0, 1) := by decide +kernel
theorem dX12_lay_1 : decode cX12_lay 1 = .ok (.istore_n 3, 1) := by decide +kernel
theorem dX12_lay_2 : decode cX12_lay 2 = .ok (.iload_n 3, 1) := by decide +kernel
theorem dX12_lay_3 : decode cX12_lay 3 = .ok (.bipush 106, 2) := by decide +kernel
theorem dX12_lay_5 : decode cX12_lay 5 = .ok (.if_icmp .ge 17, 3) := by decide +kernel
theorem dX12_lay_8 : decode cX12_lay 8 = .ok (.aload_n 1, 1) := by decide +kernel
theorem dX12_lay_9 : decode cX12_lay 9 = .ok (.iload_n 2, 1) := by decide +kernel
theorem dX12_lay_10 : decode cX12_lay 10 = .ok (.iload_n 3, 1) := by decide +kernel
theorem dX12_lay_11 : decode cX12_lay 11 = .ok (.iadd, 1) := by decide +kernel
theorem dX12_lay_12 : decode cX12_lay 12 = .ok (.aload_n 0, 1) := by decide +kernel
theorem dX12_lay_13 : decode cX12_lay 13 = .ok (.iload_n 3, 1) := by decide +kernel
theorem dX12_lay_14 : decode cX12_lay 14 = .ok (.iaload, 1) := by decide +kernel
theorem dX12_lay_15 : decode cX12_lay 15 = .ok (.iastore, 1) := by decide +kernel
theorem dX12_lay_16 : decode cX12_lay 16 = .ok (.iinc 3 1, 3) := by decide +kernel
theorem dX12_lay_19 : decode cX12_lay 19 = .ok (.goto (-17), 3) := by decide +kernel
theorem dX12_lay_22 : decode cX12_lay 22 = .ok (.return_, 1) := by decide +kernel
theorem dX12_change_0 : decode cX12_change 0 = .ok (.aload_n 0, 1) := by decide +kernel
theorem dX12_change_1 : decode cX12_change 1 = .ok (.dup, 1) := by decide +kernel
theorem dX12_change_2 : decode cX12_change 2 = .ok (.getfield 201, 3) := by decide +kernel
theorem dX12_change_5 : decode cX12_change 5 = .ok (.iconst 1, 1) := by decide +kernel
theorem dX12_change_6 : decode cX12_change 6 = .ok (.iadd, 1) := by decide +kernel
theorem dX12_change_7 : decode cX12_change 7 = .ok (.putfield 201, 3) := by decide +kernel
theorem dX12_change_10 : decode cX12_change 10 = .ok (.aload_n 0, 1) := by decide +kernel
theorem dX12_change_11 : decode cX12_change 11 = .ok (.getfield 228, 3) := by decide +kernel
theorem dX12_change_14 : decode cX12_change 14 = .ok (.bipush 10, 2) := by decide +kernel
theorem dX12_change_16 : decode cX12_change 16 = .ok (.if_icmp .ne 43, 3) := by decide +kernel
theorem dX12_change_19 : decode cX12_change 19 = .ok (.iconst 0, 1) := by decide +kernel
theorem dX12_change_20 : decode cX12_change 20 = .ok (.istore_n 2, 1) := by decide +kernel
theorem dX12_change_21 : decode cX12_change 21 = .ok (.iload_n 2, 1) := by decide +kernel
theorem dX12_change_22 : decode cX12_change 22 = .ok (.sipush 954, 3) := by decide +kernel
theorem dX12_change_25 : decode cX12_change 25 = .ok (.if_icmp .ge 24, 3) := by decide +kernel
theorem dX12_change_28 : decode cX12_change 28 = .ok (.aload_n 0, 1) := by decide +kernel
theorem dX12_change_29 : decode cX12_change 29 = .ok (.getfield 33, 3) := by decide +kernel
theorem dX12_change_32 : decode cX12_change 32 = .ok (.iload_n 2, 1) := by decide +kernel
theorem dX12_change_33 : decode cX12_change 33 = .ok (.aload_n 0, 1) := by decide +kernel
theorem dX12_change_34 : decode cX12_change 34 = .ok (.getfield 33, 3) := by decide +kernel
theorem dX12_change_37 : decode cX12_change 37 = .ok (.iload_n 2, 1) := by decide +kernel
theorem dX12_change_38 : decode cX12_change 38 = .ok (.bipush 106, 2) := by decide +kernel
theorem dX12_change_40 : decode cX12_change 40 = .ok (.iadd, 1) := by decide +kernel
theorem dX12_change_41 : decode cX12_change 41 = .ok (.iaload, 1) := by decide +kernel
theorem dX12_change_42 : decode cX12_change 42 = .ok (.iastore, 1) := by decide +kernel
theorem dX12_change_43 : decode cX12_change 43 = .ok (.iinc 2 1, 3) := by decide +kernel
theorem dX12_change_46 : decode cX12_change 46 = .ok (.goto (-25), 3) := by decide +kernel
theorem dX12_change_49 : decode cX12_change 49 = .ok (.aload_n 0, 1) := by decide +kernel
theorem dX12_change_50 : decode cX12_change 50 = .ok (.dup, 1) := by decide +kernel
theorem dX12_change_51 : decode cX12_change 51 = .ok (.getfield 228, 3) := by decide +kernel
theorem dX12_change_54 : decode cX12_change 54 = .ok (.iconst 1, 1) := by decide +kernel
theorem dX12_change_55 : decode cX12_change 55 = .ok (.isub, 1) := by decide +kernel
theorem dX12_change_56 : decode cX12_change 56 = .ok (.putfield 228, 3) := by decide +kernel
theorem dX12_change_59 : decode cX12_change 59 = .ok (.aload_n 1, 1) := by decide +kernel
theorem dX12_change_60 : decode cX12_change 60 = .ok (.aload_n 0, 1) := by decide +kernel
theorem dX12_change_61 : decode cX12_change 61 = .ok (.getfield 33, 3) := by decide +kernel
theorem dX12_change_64 : decode cX12_change 64 = .ok (.bipush 106, 2) := by decide +kernel
theorem dX12_change_66 : decode cX12_change 66 = .ok (.aload_n 0, 1) := by decide +kernel
theorem dX12_change_67 : decode cX12_change 67 = .ok (.getfield 228, 3) := by decide +kernel
theorem dX12_change_70 : decode cX12_change 70 = .ok (.imul, 1) := by decide +kernel
theorem dX12_change_71 : decode cX12_change 71 = .ok (.invokestatic 231, 3) := by decide +kernel
theorem dX12_change_74 : decode cX12_change 74 = .ok (.aload_n 0, 1) := by decide +kernel
theorem dX12_change_75 : decode cX12_change 75 = .ok (.dup, 1) := by decide +kernel
theorem dX12_change_76 : decode cX12_change 76 = .ok (.getfield 228, 3) := by decide +kernel
theorem dX12_change_79 : decode cX12_change 79 = .ok (.iconst 1, 1) := by decide +kernel
theorem dX12_change_80 : decode cX12_change 80 = .ok (.iadd, 1) := by decide +kernel
theorem dX12_change_81 : decode cX12_change 81 = .ok (.putfield 228, 3) := by decide +kernel
theorem dX12_change_84 : decode cX12_change 84 = .ok (.return_, 1) := by decide +kernel
theorem dX12_refusesPut_0 : decode cX12_refusesPut 0 = .ok (.iload_n 1, 1) := by decide +kernel
theorem dX12_refusesPut_1 : decode cX12_refusesPut 1 = .ok (.invokestatic 161, 3) := by decide +kernel
theorem dX12_refusesPut_4 : decode cX12_refusesPut 4 = .ok (.ifCond .eq 13, 3) := by decide +kernel
theorem dX12_refusesPut_7 : decode cX12_refusesPut 7 = .ok (.iload_n 2, 1) := by decide +kernel
theorem dX12_refusesPut_8 : decode cX12_refusesPut 8 = .ok (.iconst 0, 1) := by decide +kernel
theorem dX12_refusesPut_9 : decode cX12_refusesPut 9 = .ok (.bipush 99, 2) := by decide +kernel
theorem dX12_refusesPut_11 : decode cX12_refusesPut 11 = .ok (.invokestatic 101, 3) := by decide +kernel
theorem dX12_refusesPut_14 : decode cX12_refusesPut 14 = .ok (.ifCond .ne 5, 3) := by decide +kernel
theorem dX12_refusesPut_17 : decode cX12_refusesPut 17 = .ok (.iconst (-1), 1) := by decide +kernel
theorem dX12_refusesPut_18 : decode cX12_refusesPut 18 = .ok (.ireturn, 1) := by decide +kernel
theorem dX12_refusesPut_19 : decode cX12_refusesPut 19 = .ok (.aload_n 0, 1) := by decide +kernel
theorem dX12_refusesPut_20 : decode cX12_refusesPut 20 = .ok (.bipush 24, 2) := by decide +kernel
theorem dX12_refusesPut_22 : decode cX12_refusesPut 22 = .ok (.iload_n 1, 1) := by decide +kernel
theorem dX12_refusesPut_23 : decode cX12_refusesPut 23 = .ok (.iadd, 1) := by decide +kernel
theorem dX12_refusesPut_24 : decode cX12_refusesPut 24 = .ok (.iaload, 1) := by decide +kernel
theorem dX12_refusesPut_25 : decode cX12_refusesPut 25 = .ok (.bipush 6, 2) := by decide +kernel
theorem dX12_refusesPut_27 : decode cX12_refusesPut 27 = .ok (.if_icmp .ne 8, 3) := by decide +kernel
theorem dX12_refusesPut_30 : decode cX12_refusesPut 30 = .ok (.bipush (-2), 2) := by decide +kernel
theorem dX12_refusesPut_32 : decode cX12_refusesPut 32 = .ok (.goto 4, 3) := by decide +kernel
theorem dX12_refusesPut_35 : decode cX12_refusesPut 35 = .ok (.iconst 0, 1) := by decide +kernel
theorem dX12_refusesPut_36 : decode cX12_refusesPut 36 = .ok (.ireturn, 1) := by decide +kernel
theorem dX12_goPut_0 : decode cX12_goPut 0 = .ok (.aload_n 0, 1) := by decide +kernel
theorem dX12_goPut_1 : decode cX12_goPut 1 = .ok (.bipush 24, 2) := by decide +kernel
theorem dX12_goPut_3 : decode cX12_goPut 3 = .ok (.iload_n 1, 1) := by decide +kernel
theorem dX12_goPut_4 : decode cX12_goPut 4 = .ok (.iadd, 1) := by decide +kernel
theorem dX12_goPut_5 : decode cX12_goPut 5 = .ok (.iaload, 1) := by decide +kernel
theorem dX12_goPut_6 : decode cX12_goPut 6 = .ok (.istore_n 3, 1) := by decide +kernel
theorem dX12_goPut_7 : decode cX12_goPut 7 = .ok (.iload_n 3, 1) := by decide +kernel
theorem dX12_goPut_8 : decode cX12_goPut 8 = .ok (.ifCond .le 41, 3) := by decide +kernel
theorem dX12_goPut_11 : decode cX12_goPut 11 = .ok (.aload_n 0, 1) := by decide +kernel
theorem dX12_goPut_12 : decode cX12_goPut 12 = .ok (.bipush 6, 2) := by decide +kernel
theorem dX12_goPut_14 : decode cX12_goPut 14 = .ok (.iload_n 1, 1) := by decide +kernel
theorem dX12_goPut_15 : decode cX12_goPut 15 = .ok (.imul, 1) := by decide +kernel
theorem dX12_goPut_16 : decode cX12_goPut 16 = .ok (.iload_n 3, 1) := by decide +kernel
theorem dX12_goPut_17 : decode cX12_goPut 17 = .ok (.iadd, 1) := by decide +kernel
theorem dX12_goPut_18 : decode cX12_goPut 18 = .ok (.iconst 1, 1) := by decide +kernel
theorem dX12_goPut_19 : decode cX12_goPut 19 = .ok (.isub, 1) := by decide +kernel
theorem dX12_goPut_20 : decode cX12_goPut 20 = .ok (.iaload, 1) := by decide +kernel
theorem dX12_goPut_21 : decode cX12_goPut 21 = .ok (.iload_n 2, 1) := by decide +kernel
theorem dX12_goPut_22 : decode cX12_goPut 22 = .ok (.if_icmp .le 27, 3) := by decide +kernel
theorem dX12_goPut_25 : decode cX12_goPut 25 = .ok (.aload_n 0, 1) := by decide +kernel
theorem dX12_goPut_26 : decode cX12_goPut 26 = .ok (.bipush 6, 2) := by decide +kernel
theorem dX12_goPut_28 : decode cX12_goPut 28 = .ok (.iload_n 1, 1) := by decide +kernel
theorem dX12_goPut_29 : decode cX12_goPut 29 = .ok (.imul, 1) := by decide +kernel
theorem dX12_goPut_30 : decode cX12_goPut 30 = .ok (.iload_n 3, 1) := by decide +kernel
theorem dX12_goPut_31 : decode cX12_goPut 31 = .ok (.iadd, 1) := by decide +kernel
theorem dX12_goPut_32 : decode cX12_goPut 32 = .ok (.aload_n 0, 1) := by decide +kernel
theorem dX12_goPut_33 : decode cX12_goPut 33 = .ok (.bipush 6, 2) := by decide +kernel
theorem dX12_goPut_35 : decode cX12_goPut 35 = .ok (.iload_n 1, 1) := by decide +kernel
theorem dX12_goPut_36 : decode cX12_goPut 36 = .ok (.imul, 1) := by decide +kernel
theorem dX12_goPut_37 : decode cX12_goPut 37 = .ok (.iload_n 3, 1) := by decide +kernel
theorem dX12_goPut_38 : decode cX12_goPut 38 = .ok (.iadd, 1) := by decide +kernel
theorem dX12_goPut_39 : decode cX12_goPut 39 = .ok (.iconst 1, 1) := by decide +kernel
theorem dX12_goPut_40 : decode cX12_goPut 40 = .ok (.isub, 1) := by decide +kernel
theorem dX12_goPut_41 : decode cX12_goPut 41 = .ok (.iaload, 1) := by decide +kernel
theorem dX12_goPut_42 : decode cX12_goPut 42 = .ok (.iastore, 1) := by decide +kernel
theorem dX12_goPut_43 : decode cX12_goPut 43 = .ok (.iinc 3 (-1), 3) := by decide +kernel
theorem dX12_goPut_46 : decode cX12_goPut 46 = .ok (.goto (-39), 3) := by decide +kernel
theorem dX12_goPut_49 : decode cX12_goPut 49 = .ok (.aload_n 0, 1) := by decide +kernel
theorem dX12_goPut_50 : decode cX12_goPut 50 = .ok (.bipush 6, 2) := by decide +kernel
theorem dX12_goPut_52 : decode cX12_goPut 52 = .ok (.iload_n 1, 1) := by decide +kernel
theorem dX12_goPut_53 : decode cX12_goPut 53 = .ok (.imul, 1) := by decide +kernel
theorem dX12_goPut_54 : decode cX12_goPut 54 = .ok (.iload_n 3, 1) := by decide +kernel
theorem dX12_goPut_55 : decode cX12_goPut 55 = .ok (.iadd, 1) := by decide +kernel
theorem dX12_goPut_56 : decode cX12_goPut 56 = .ok (.iload_n 2, 1) := by decide +kernel
theorem dX12_goPut_57 : decode cX12_goPut 57 = .ok (.iastore, 1) := by decide +kernel
theorem dX12_goPut_58 : decode cX12_goPut 58 = .ok (.aload_n 0, 1) := by decide +kernel
theorem dX12_goPut_59 : decode cX12_goPut 59 = .ok (.bipush 24, 2) := by decide +kernel
theorem dX12_goPut_61 : decode cX12_goPut 61 = .ok (.iload_n 1, 1) := by decide +kernel
theorem dX12_goPut_62 : decode cX12_goPut 62 = .ok (.iadd, 1) := by decide +kernel
theorem dX12_goPut_63 : decode cX12_goPut 63 = .ok (.dup2, 1) := by decide +kernel
theorem dX12_goPut_64 : decode cX12_goPut 64 = .ok (.iaload, 1) := by decide +kernel
theorem dX12_goPut_65 : decode cX12_goPut 65 = .ok (.iconst 1, 1) := by decide +kernel
theorem dX12_goPut_66 : decode cX12_goPut 66 = .ok (.iadd, 1) := by decide +kernel
theorem dX12_goPut_67 : decode cX12_goPut 67 = .ok (.iastore, 1) := by decide +kernel
theorem dX12_goPut_68 : decode cX12_goPut 68 = .ok (.iload_n 3, 1) := by decide +kernel
theorem dX12_goPut_69 : decode cX12_goPut 69 = .ok (.ireturn, 1) := by decide +kernel
theorem dX12_puts_0 : decode cX12_puts 0 = .ok (.aload_n 0, 1) := by decide +kernel
theorem dX12_puts_1 : decode cX12_puts 1 = .ok (.iconst 0, 1) := by decide +kernel
theorem dX12_puts_2 : decode cX12_puts 2 = .ok (.putfield 94, 3) := by decide +kernel
theorem dX12_puts_5 : decode cX12_puts 5 = .ok (.aload_n 0, 1) := by decide +kernel
theorem dX12_puts_6 : decode cX12_puts 6 = .ok (.getfield 9, 3) := by decide +kernel
theorem dX12_puts_9 : decode cX12_puts 9 = .ok (.iload_n 1, 1) := by decide +kernel
theorem dX12_puts_10 : decode cX12_puts 10 = .ok (.iload_n 2, 1) := by decide +kernel
theorem dX12_puts_11 : decode cX12_puts 11 = .ok (.invokestatic 235, 3) := by decide +kernel
theorem dX12_puts_14 : decode cX12_puts 14 = .ok (.istore_n 3, 1) := by decide +kernel
theorem dX12_puts_15 : decode cX12_puts 15 = .ok (.iload_n 3, 1) := by decide +kernel
theorem dX12_puts_16 : decode cX12_puts 16 = .ok (.ifCond .ge 5, 3) := by decide +kernel
theorem dX12_puts_19 : decode cX12_puts 19 = .ok (.iload_n 3, 1) := by decide +kernel
theorem dX12_puts_20 : decode cX12_puts 20 = .ok (.ireturn, 1) := by decide +kernel
theorem dX12_puts_21 : decode cX12_puts 21 = .ok (.aload_n 0, 1) := by decide +kernel
theorem dX12_puts_22 : decode cX12_puts 22 = .ok (.aload_n 0, 1) := by decide +kernel
theorem dX12_puts_23 : decode cX12_puts 23 = .ok (.getfield 9, 3) := by decide +kernel
theorem dX12_puts_26 : decode cX12_puts 26 = .ok (.invokevirtual 165, 3) := by decide +kernel
theorem dX12_puts_29 : decode cX12_puts 29 = .ok (.aload_n 0, 1) := by decide +kernel
theorem dX12_puts_30 : decode cX12_puts 30 = .ok (.getfield 9, 3) := by decide +kernel
theorem dX12_puts_33 : decode cX12_puts 33 = .ok (.iload_n 1, 1) := by decide +kernel
theorem dX12_puts_34 : decode cX12_puts 34 = .ok (.iload_n 2, 1) := by decide +kernel
theorem dX12_puts_35 : decode cX12_puts 35 = .ok (.invokestatic 169, 3) := by decide +kernel
theorem dX12_puts_38 : decode cX12_puts 38 = .ok (.ireturn, 1) := by decide +kernel
theorem dX12_canTake_0 : decode cX12_canTake 0 = .ok (.iload_n 1, 1) := by decide +kernel
theorem dX12_canTake_1 : decode cX12_canTake 1 = .ok (.invokestatic 161, 3) := by decide +kernel
theorem dX12_canTake_4 : decode cX12_canTake 4 = .ok (.ifCond .eq 23, 3) := by decide +kernel
theorem dX12_canTake_7 : decode cX12_canTake 7 = .ok (.iload_n 2, 1) := by decide +kernel
theorem dX12_canTake_8 : decode cX12_canTake 8 = .ok (.iconst 0, 1) := by decide +kernel
theorem dX12_canTake_9 : decode cX12_canTake 9 = .ok (.aload_n 0, 1) := by decide +kernel
theorem dX12_canTake_10 : decode cX12_canTake 10 = .ok (.bipush 24, 2) := by decide +kernel
theorem dX12_canTake_12 : decode cX12_canTake 12 = .ok (.iload_n 1, 1) := by decide +kernel
theorem dX12_canTake_13 : decode cX12_canTake 13 = .ok (.iadd, 1) := by decide +kernel
theorem dX12_canTake_14 : decode cX12_canTake 14 = .ok (.iaload, 1) := by decide +kernel
theorem dX12_canTake_15 : decode cX12_canTake 15 = .ok (.iconst 1, 1) := by decide +kernel
theorem dX12_canTake_16 : decode cX12_canTake 16 = .ok (.isub, 1) := by decide +kernel
theorem dX12_canTake_17 : decode cX12_canTake 17 = .ok (.invokestatic 101, 3) := by decide +kernel
theorem dX12_canTake_20 : decode cX12_canTake 20 = .ok (.ifCond .eq 7, 3) := by decide +kernel
theorem dX12_canTake_23 : decode cX12_canTake 23 = .ok (.iconst 1, 1) := by decide +kernel
theorem dX12_canTake_24 : decode cX12_canTake 24 = .ok (.goto 4, 3) := by decide +kernel
theorem dX12_canTake_27 : decode cX12_canTake 27 = .ok (.iconst 0, 1) := by decide +kernel
theorem dX12_canTake_28 : decode cX12_canTake 28 = .ok (.ireturn, 1) := by decide +kernel
theorem dX12_goTake_0 : decode cX12_goTake 0 = .ok (.aload_n 0, 1) := by decide +kernel
theorem dX12_goTake_1 : decode cX12_goTake 1 = .ok (.bipush 6, 2) := by decide +kernel
theorem dX12_goTake_3 : decode cX12_goTake 3 = .ok (.iload_n 1, 1) := by decide +kernel
theorem dX12_goTake_4 : decode cX12_goTake 4 = .ok (.imul, 1) := by decide +kernel
theorem dX12_goTake_5 : decode cX12_goTake 5 = .ok (.iload_n 2, 1) := by decide +kernel
theorem dX12_goTake_6 : decode cX12_goTake 6 = .ok (.iadd, 1) := by decide +kernel
theorem dX12_goTake_7 : decode cX12_goTake 7 = .ok (.iaload, 1) := by decide +kernel
theorem dX12_goTake_8 : decode cX12_goTake 8 = .ok (.istore_n 3, 1) := by decide +kernel
theorem dX12_goTake_9 : decode cX12_goTake 9 = .ok (.aload_n 0, 1) := by decide +kernel
theorem dX12_goTake_10 : decode cX12_goTake 10 = .ok (.bipush 24, 2) := by decide +kernel
theorem dX12_goTake_12 : decode cX12_goTake 12 = .ok (.iload_n 1, 1) := by decide +kernel
theorem dX12_goTake_13 : decode cX12_goTake 13 = .ok (.iadd, 1) := by decide +kernel
theorem dX12_goTake_14 : decode cX12_goTake 14 = .ok (.dup2, 1) := by decide +kernel
theorem dX12_goTake_15 : decode cX12_goTake 15 = .ok (.iaload, 1) := by decide +kernel
theorem dX12_goTake_16 : decode cX12_goTake 16 = .ok (.iconst 1, 1) := by decide +kernel
theorem dX12_goTake_17 : decode cX12_goTake 17 = .ok (.isub, 1) := by decide +kernel
theorem dX12_goTake_18 : decode cX12_goTake 18 = .ok (.iastore, 1) := by decide +kernel
theorem dX12_goTake_19 : decode cX12_goTake 19 = .ok (.iload_n 2, 1) := by decide +kernel
theorem dX12_goTake_20 : decode cX12_goTake 20 = .ok (.istore 4, 2) := by decide +kernel
theorem dX12_goTake_22 : decode cX12_goTake 22 = .ok (.iload 4, 2) := by decide +kernel
theorem dX12_goTake_24 : decode cX12_goTake 24 = .ok (.aload_n 0, 1) := by decide +kernel
theorem dX12_goTake_25 : decode cX12_goTake 25 = .ok (.bipush 24, 2) := by decide +kernel
theorem dX12_goTake_27 : decode cX12_goTake 27 = .ok (.iload_n 1, 1) := by decide +kernel
theorem dX12_goTake_28 : decode cX12_goTake 28 = .ok (.iadd, 1) := by decide +kernel
theorem dX12_goTake_29 : decode cX12_goTake 29 = .ok (.iaload, 1) := by decide +kernel
theorem dX12_goTake_30 : decode cX12_goTake 30 = .ok (.if_icmp .ge 29, 3) := by decide +kernel
theorem dX12_goTake_33 : decode cX12_goTake 33 = .ok (.aload_n 0, 1) := by decide +kernel
theorem dX12_goTake_34 : decode cX12_goTake 34 = .ok (.bipush 6, 2) := by decide +kernel
theorem dX12_goTake_36 : decode cX12_goTake 36 = .ok (.iload_n 1, 1) := by decide +kernel
theorem dX12_goTake_37 : decode cX12_goTake 37 = .ok (.imul, 1) := by decide +kernel
theorem dX12_goTake_38 : decode cX12_goTake 38 = .ok (.iload 4, 2) := by decide +kernel
theorem dX12_goTake_40 : decode cX12_goTake 40 = .ok (.iadd, 1) := by decide +kernel
theorem dX12_goTake_41 : decode cX12_goTake 41 = .ok (.aload_n 0, 1) := by decide +kernel
theorem dX12_goTake_42 : decode cX12_goTake 42 = .ok (.bipush 6, 2) := by decide +kernel
theorem dX12_goTake_44 : decode cX12_goTake 44 = .ok (.iload_n 1, 1) := by decide +kernel
theorem dX12_goTake_45 : decode cX12_goTake 45 = .ok (.imul, 1) := by decide +kernel
theorem dX12_goTake_46 : decode cX12_goTake 46 = .ok (.iload 4, 2) := by decide +kernel
theorem dX12_goTake_48 : decode cX12_goTake 48 = .ok (.iadd, 1) := by decide +kernel
theorem dX12_goTake_49 : decode cX12_goTake 49 = .ok (.iconst 1, 1) := by decide +kernel
theorem dX12_goTake_50 : decode cX12_goTake 50 = .ok (.iadd, 1) := by decide +kernel
theorem dX12_goTake_51 : decode cX12_goTake 51 = .ok (.iaload, 1) := by decide +kernel
theorem dX12_goTake_52 : decode cX12_goTake 52 = .ok (.iastore, 1) := by decide +kernel
theorem dX12_goTake_53 : decode cX12_goTake 53 = .ok (.iinc 4 1, 3) := by decide +kernel
theorem dX12_goTake_56 : decode cX12_goTake 56 = .ok (.goto (-34), 3) := by decide +kernel
theorem dX12_goTake_59 : decode cX12_goTake 59 = .ok (.iload_n 3, 1) := by decide +kernel
theorem dX12_goTake_60 : decode cX12_goTake 60 = .ok (.ireturn, 1) := by decide +kernel
theorem dX12_takes_0 : decode cX12_takes 0 = .ok (.aload_n 0, 1) := by decide +kernel
theorem dX12_takes_1 : decode cX12_takes 1 = .ok (.iconst 0, 1) := by decide +kernel
theorem dX12_takes_2 : decode cX12_takes 2 = .ok (.putfield 94, 3) := by decide +kernel
theorem dX12_takes_5 : decode cX12_takes 5 = .ok (.aload_n 0, 1) := by decide +kernel
theorem dX12_takes_6 : decode cX12_takes 6 = .ok (.getfield 9, 3) := by decide +kernel
theorem dX12_takes_9 : decode cX12_takes 9 = .ok (.iload_n 1, 1) := by decide +kernel
theorem dX12_takes_10 : decode cX12_takes 10 = .ok (.iload_n 2, 1) := by decide +kernel
theorem dX12_takes_11 : decode cX12_takes 11 = .ok (.invokestatic 238, 3) := by decide +kernel
theorem dX12_takes_14 : decode cX12_takes 14 = .ok (.ifCond .ne 5, 3) := by decide +kernel
theorem dX12_takes_17 : decode cX12_takes 17 = .ok (.iconst (-1), 1) := by decide +kernel
theorem dX12_takes_18 : decode cX12_takes 18 = .ok (.ireturn, 1) := by decide +kernel
theorem dX12_takes_19 : decode cX12_takes 19 = .ok (.aload_n 0, 1) := by decide +kernel
theorem dX12_takes_20 : decode cX12_takes 20 = .ok (.aload_n 0, 1) := by decide +kernel
theorem dX12_takes_21 : decode cX12_takes 21 = .ok (.getfield 9, 3) := by decide +kernel
theorem dX12_takes_24 : decode cX12_takes 24 = .ok (.invokevirtual 165, 3) := by decide +kernel
theorem dX12_takes_27 : decode cX12_takes 27 = .ok (.aload_n 0, 1) := by decide +kernel
theorem dX12_takes_28 : decode cX12_takes 28 = .ok (.getfield 9, 3) := by decide +kernel
theorem dX12_takes_31 : decode cX12_takes 31 = .ok (.iload_n 1, 1) := by decide +kernel
theorem dX12_takes_32 : decode cX12_takes 32 = .ok (.iload_n 2, 1) := by decide +kernel
theorem dX12_takes_33 : decode cX12_takes 33 = .ok (.invokestatic 242, 3) := by decide +kernel
theorem dX12_takes_36 : decode cX12_takes 36 = .ok (.ireturn, 1) := by decide +kernel
theorem dX12_refusesJoin_0 : decode cX12_refusesJoin 0 = .ok (.iload_n 1, 1) := by decide +kernel
theorem dX12_refusesJoin_1 : decode cX12_refusesJoin 1 = .ok (.iconst 0, 1) := by decide +kernel
theorem dX12_refusesJoin_2 : decode cX12_refusesJoin 2 = .ok (.bipush 6, 2) := by decide +kernel
theorem dX12_refusesJoin_4 : decode cX12_refusesJoin 4 = .ok (.invokestatic 101, 3) := by decide +kernel
theorem dX12_refusesJoin_7 : decode cX12_refusesJoin 7 = .ok (.ifCond .eq 28, 3) := by decide +kernel
theorem dX12_refusesJoin_10 : decode cX12_refusesJoin 10 = .ok (.iload_n 2, 1) := by decide +kernel
theorem dX12_refusesJoin_11 : decode cX12_refusesJoin 11 = .ok (.iconst 0, 1) := by decide +kernel
theorem dX12_refusesJoin_12 : decode cX12_refusesJoin 12 = .ok (.bipush 6, 2) := by decide +kernel
theorem dX12_refusesJoin_14 : decode cX12_refusesJoin 14 = .ok (.invokestatic 101, 3) := by decide +kernel
theorem dX12_refusesJoin_17 : decode cX12_refusesJoin 17 = .ok (.ifCond .eq 18, 3) := by decide +kernel
theorem dX12_refusesJoin_20 : decode cX12_refusesJoin 20 = .ok (.iload_n 1, 1) := by decide +kernel
theorem dX12_refusesJoin_21 : decode cX12_refusesJoin 21 = .ok (.iload_n 2, 1) := by decide +kernel
theorem dX12_refusesJoin_22 : decode cX12_refusesJoin 22 = .ok (.if_icmp .eq 13, 3) := by decide +kernel
theorem dX12_refusesJoin_25 : decode cX12_refusesJoin 25 = .ok (.iload_n 3, 1) := by decide +kernel
theorem dX12_refusesJoin_26 : decode cX12_refusesJoin 26 = .ok (.iconst 0, 1) := by decide +kernel
theorem dX12_refusesJoin_27 : decode cX12_refusesJoin 27 = .ok (.bipush 99, 2) := by decide +kernel
theorem dX12_refusesJoin_29 : decode cX12_refusesJoin 29 = .ok (.invokestatic 101, 3) := by decide +kernel
theorem dX12_refusesJoin_32 : decode cX12_refusesJoin 32 = .ok (.ifCond .ne 5, 3) := by decide +kernel
theorem dX12_refusesJoin_35 : decode cX12_refusesJoin 35 = .ok (.iconst (-1), 1) := by decide +kernel
theorem dX12_refusesJoin_36 : decode cX12_refusesJoin 36 = .ok (.ireturn, 1) := by decide +kernel
theorem dX12_refusesJoin_37 : decode cX12_refusesJoin 37 = .ok (.aload_n 0, 1) := by decide +kernel
theorem dX12_refusesJoin_38 : decode cX12_refusesJoin 38 = .ok (.iload_n 1, 1) := by decide +kernel
theorem dX12_refusesJoin_39 : decode cX12_refusesJoin 39 = .ok (.iload_n 2, 1) := by decide +kernel
theorem dX12_refusesJoin_40 : decode cX12_refusesJoin 40 = .ok (.invokestatic 105, 3) := by decide +kernel
theorem dX12_refusesJoin_43 : decode cX12_refusesJoin 43 = .ok (.ifCond .le 5, 3) := by decide +kernel
theorem dX12_refusesJoin_46 : decode cX12_refusesJoin 46 = .ok (.iconst 0, 1) := by decide +kernel
theorem dX12_refusesJoin_47 : decode cX12_refusesJoin 47 = .ok (.ireturn, 1) := by decide +kernel
theorem dX12_refusesJoin_48 : decode cX12_refusesJoin 48 = .ok (.iload_n 3, 1) := by decide +kernel
theorem dX12_refusesJoin_49 : decode cX12_refusesJoin 49 = .ok (.ifCond .ne 8, 3) := by decide +kernel
theorem dX12_refusesJoin_52 : decode cX12_refusesJoin 52 = .ok (.bipush (-2), 2) := by decide +kernel
theorem dX12_refusesJoin_54 : decode cX12_refusesJoin 54 = .ok (.goto 18, 3) := by decide +kernel
theorem dX12_refusesJoin_57 : decode cX12_refusesJoin 57 = .ok (.aload_n 0, 1) := by decide +kernel
theorem dX12_refusesJoin_58 : decode cX12_refusesJoin 58 = .ok (.invokestatic 216, 3) := by decide +kernel
theorem dX12_refusesJoin_61 : decode cX12_refusesJoin 61 = .ok (.bipush 12, 2) := by decide +kernel
theorem dX12_refusesJoin_63 : decode cX12_refusesJoin 63 = .ok (.if_icmp .ne 8, 3) := by decide +kernel
theorem dX12_refusesJoin_66 : decode cX12_refusesJoin 66 = .ok (.bipush (-3), 2) := by decide +kernel
theorem dX12_refusesJoin_68 : decode cX12_refusesJoin 68 = .ok (.goto 4, 3) := by decide +kernel
theorem dX12_refusesJoin_71 : decode cX12_refusesJoin 71 = .ok (.iconst 0, 1) := by decide +kernel
theorem dX12_refusesJoin_72 : decode cX12_refusesJoin 72 = .ok (.ireturn, 1) := by decide +kernel
theorem dX12_joins_0 : decode cX12_joins 0 = .ok (.aload_n 0, 1) := by decide +kernel
theorem dX12_joins_1 : decode cX12_joins 1 = .ok (.iconst 0, 1) := by decide +kernel
theorem dX12_joins_2 : decode cX12_joins 2 = .ok (.putfield 94, 3) := by decide +kernel
theorem dX12_joins_5 : decode cX12_joins 5 = .ok (.aload_n 0, 1) := by decide +kernel
theorem dX12_joins_6 : decode cX12_joins 6 = .ok (.getfield 9, 3) := by decide +kernel
theorem dX12_joins_9 : decode cX12_joins 9 = .ok (.iload_n 1, 1) := by decide +kernel
theorem dX12_joins_10 : decode cX12_joins 10 = .ok (.iload_n 2, 1) := by decide +kernel
theorem dX12_joins_11 : decode cX12_joins 11 = .ok (.iload_n 3, 1) := by decide +kernel
theorem dX12_joins_12 : decode cX12_joins 12 = .ok (.invokestatic 245, 3) := by decide +kernel
theorem dX12_joins_15 : decode cX12_joins 15 = .ok (.istore 4, 2) := by decide +kernel
theorem dX12_joins_17 : decode cX12_joins 17 = .ok (.iload 4, 2) := by decide +kernel
theorem dX12_joins_19 : decode cX12_joins 19 = .ok (.ifCond .ge 6, 3) := by decide +kernel
theorem dX12_joins_22 : decode cX12_joins 22 = .ok (.iload 4, 2) := by decide +kernel
theorem dX12_joins_24 : decode cX12_joins 24 = .ok (.ireturn, 1) := by decide +kernel
theorem dX12_joins_25 : decode cX12_joins 25 = .ok (.aload_n 0, 1) := by decide +kernel
theorem dX12_joins_26 : decode cX12_joins 26 = .ok (.aload_n 0, 1) := by decide +kernel
theorem dX12_joins_27 : decode cX12_joins 27 = .ok (.getfield 9, 3) := by decide +kernel
theorem dX12_joins_30 : decode cX12_joins 30 = .ok (.invokevirtual 165, 3) := by decide +kernel
theorem dX12_joins_33 : decode cX12_joins 33 = .ok (.aload_n 0, 1) := by decide +kernel
theorem dX12_joins_34 : decode cX12_joins 34 = .ok (.getfield 9, 3) := by decide +kernel
theorem dX12_joins_37 : decode cX12_joins 37 = .ok (.iload_n 1, 1) := by decide +kernel
theorem dX12_joins_38 : decode cX12_joins 38 = .ok (.iload_n 2, 1) := by decide +kernel
theorem dX12_joins_39 : decode cX12_joins 39 = .ok (.iload_n 3, 1) := by decide +kernel
theorem dX12_joins_40 : decode cX12_joins 40 = .ok (.invokestatic 224, 3) := by decide +kernel
theorem dX12_joins_43 : decode cX12_joins 43 = .ok (.aload_n 0, 1) := by decide +kernel
theorem dX12_joins_44 : decode cX12_joins 44 = .ok (.getfield 9, 3) := by decide +kernel
theorem dX12_joins_47 : decode cX12_joins 47 = .ok (.invokestatic 216, 3) := by decide +kernel
theorem dX12_joins_50 : decode cX12_joins 50 = .ok (.ireturn, 1) := by decide +kernel
theorem dX12_canCost_0 : decode cX12_canCost 0 = .ok (.iload_n 0, 1) := by decide +kernel
theorem dX12_canCost_1 : decode cX12_canCost 1 = .ok (.iconst 0, 1) := by decide +kernel
theorem dX12_canCost_2 : decode cX12_canCost 2 = .ok (.iconst 4, 1) := by decide +kernel
theorem dX12_canCost_3 : decode cX12_canCost 3 = .ok (.invokestatic 101, 3) := by decide +kernel
theorem dX12_canCost_6 : decode cX12_canCost 6 = .ok (.ifCond .eq 26, 3) := by decide +kernel
theorem dX12_canCost_9 : decode cX12_canCost 9 = .ok (.iload_n 1, 1) := by decide +kernel
theorem dX12_canCost_10 : decode cX12_canCost 10 = .ok (.iconst 0, 1) := by decide +kernel
theorem dX12_canCost_11 : decode cX12_canCost 11 = .ok (.iconst 4, 1) := by decide +kernel
theorem dX12_canCost_12 : decode cX12_canCost 12 = .ok (.invokestatic 101, 3) := by decide +kernel
theorem dX12_canCost_15 : decode cX12_canCost 15 = .ok (.ifCond .eq 17, 3) := by decide +kernel
theorem dX12_canCost_18 : decode cX12_canCost 18 = .ok (.iload_n 2, 1) := by decide +kernel
theorem dX12_canCost_19 : decode cX12_canCost 19 = .ok (.iconst 0, 1) := by decide +kernel
theorem dX12_canCost_20 : decode cX12_canCost 20 = .ok (.bipush 99, 2) := by decide +kernel
theorem dX12_canCost_22 : decode cX12_canCost 22 = .ok (.invokestatic 101, 3) := by decide +kernel
theorem dX12_canCost_25 : decode cX12_canCost 25 = .ok (.ifCond .eq 7, 3) := by decide +kernel
theorem dX12_canCost_28 : decode cX12_canCost 28 = .ok (.iconst 1, 1) := by decide +kernel
theorem dX12_canCost_29 : decode cX12_canCost 29 = .ok (.goto 4, 3) := by decide +kernel
theorem dX12_canCost_32 : decode cX12_canCost 32 = .ok (.iconst 0, 1) := by decide +kernel
theorem dX12_canCost_33 : decode cX12_canCost 33 = .ok (.ireturn, 1) := by decide +kernel
theorem dX12_costs_0 : decode cX12_costs 0 = .ok (.aload_n 0, 1) := by decide +kernel
theorem dX12_costs_1 : decode cX12_costs 1 = .ok (.iconst 0, 1) := by decide +kernel
theorem dX12_costs_2 : decode cX12_costs 2 = .ok (.putfield 94, 3) := by decide +kernel
theorem dX12_costs_5 : decode cX12_costs 5 = .ok (.iload_n 1, 1) := by decide +kernel
theorem dX12_costs_6 : decode cX12_costs 6 = .ok (.iload_n 2, 1) := by decide +kernel
theorem dX12_costs_7 : decode cX12_costs 7 = .ok (.iload_n 3, 1) := by decide +kernel
theorem dX12_costs_8 : decode cX12_costs 8 = .ok (.invokestatic 249, 3) := by decide +kernel
theorem dX12_costs_11 : decode cX12_costs 11 = .ok (.ifCond .ne 5, 3) := by decide +kernel
theorem dX12_costs_14 : decode cX12_costs 14 = .ok (.iconst (-1), 1) := by decide +kernel
theorem dX12_costs_15 : decode cX12_costs 15 = .ok (.ireturn, 1) := by decide +kernel
theorem dX12_costs_16 : decode cX12_costs 16 = .ok (.aload_n 0, 1) := by decide +kernel
theorem dX12_costs_17 : decode cX12_costs 17 = .ok (.aload_n 0, 1) := by decide +kernel
theorem dX12_costs_18 : decode cX12_costs 18 = .ok (.getfield 9, 3) := by decide +kernel
theorem dX12_costs_21 : decode cX12_costs 21 = .ok (.invokevirtual 165, 3) := by decide +kernel
theorem dX12_costs_24 : decode cX12_costs 24 = .ok (.aload_n 0, 1) := by decide +kernel
theorem dX12_costs_25 : decode cX12_costs 25 = .ok (.getfield 9, 3) := by decide +kernel
theorem dX12_costs_28 : decode cX12_costs 28 = .ok (.bipush 77, 2) := by decide +kernel
theorem dX12_costs_30 : decode cX12_costs 30 = .ok (.iconst 5, 1) := by decide +kernel
theorem dX12_costs_31 : decode cX12_costs 31 = .ok (.iload_n 1, 1) := by decide +kernel
theorem dX12_costs_32 : decode cX12_costs 32 = .ok (.imul, 1) := by decide +kernel
theorem dX12_costs_33 : decode cX12_costs 33 = .ok (.iadd, 1) := by decide +kernel
theorem dX12_costs_34 : decode cX12_costs 34 = .ok (.iload_n 2, 1) := by decide +kernel
theorem dX12_costs_35 : decode cX12_costs 35 = .ok (.iadd, 1) := by decide +kernel
theorem dX12_costs_36 : decode cX12_costs 36 = .ok (.iaload, 1) := by decide +kernel
theorem dX12_costs_37 : decode cX12_costs 37 = .ok (.istore 4, 2) := by decide +kernel
theorem dX12_costs_39 : decode cX12_costs 39 = .ok (.aload_n 0, 1) := by decide +kernel
theorem dX12_costs_40 : decode cX12_costs 40 = .ok (.getfield 9, 3) := by decide +kernel
theorem dX12_costs_43 : decode cX12_costs 43 = .ok (.bipush 77, 2) := by decide +kernel
theorem dX12_costs_45 : decode cX12_costs 45 = .ok (.iconst 5, 1) := by decide +kernel
theorem dX12_costs_46 : decode cX12_costs 46 = .ok (.iload_n 1, 1) := by decide +kernel
theorem dX12_costs_47 : decode cX12_costs 47 = .ok (.imul, 1) := by decide +kernel
theorem dX12_costs_48 : decode cX12_costs 48 = .ok (.iadd, 1) := by decide +kernel
theorem dX12_costs_49 : decode cX12_costs 49 = .ok (.iload_n 2, 1) := by decide +kernel
theorem dX12_costs_50 : decode cX12_costs 50 = .ok (.iadd, 1) := by decide +kernel
theorem dX12_costs_51 : decode cX12_costs 51 = .ok (.iload_n 3, 1) := by decide +kernel
theorem dX12_costs_52 : decode cX12_costs 52 = .ok (.iastore, 1) := by decide +kernel
theorem dX12_costs_53 : decode cX12_costs 53 = .ok (.iload 4, 2) := by decide +kernel
theorem dX12_costs_55 : decode cX12_costs 55 = .ok (.ireturn, 1) := by decide +kernel
theorem dX12_refusesSet_0 : decode cX12_refusesSet 0 = .ok (.iload_n 1, 1) := by decide +kernel
theorem dX12_refusesSet_1 : decode cX12_refusesSet 1 = .ok (.iconst 0, 1) := by decide +kernel
theorem dX12_refusesSet_2 : decode cX12_refusesSet 2 = .ok (.iconst 1, 1) := by decide +kernel
theorem dX12_refusesSet_3 : decode cX12_refusesSet 3 = .ok (.invokestatic 101, 3) := by decide +kernel
theorem dX12_refusesSet_6 : decode cX12_refusesSet 6 = .ok (.ifCond .eq 20, 3) := by decide +kernel
theorem dX12_refusesSet_9 : decode cX12_refusesSet 9 = .ok (.iload_n 2, 1) := by decide +kernel
theorem dX12_refusesSet_10 : decode cX12_refusesSet 10 = .ok (.iconst 0, 1) := by decide +kernel
theorem dX12_refusesSet_11 : decode cX12_refusesSet 11 = .ok (.iload_n 1, 1) := by decide +kernel
theorem dX12_refusesSet_12 : decode cX12_refusesSet 12 = .ok (.ifCond .ne 7, 3) := by decide +kernel
theorem dX12_refusesSet_15 : decode cX12_refusesSet 15 = .ok (.iconst 5, 1) := by decide +kernel
theorem dX12_refusesSet_16 : decode cX12_refusesSet 16 = .ok (.goto 4, 3) := by decide +kernel
theorem dX12_refusesSet_19 : decode cX12_refusesSet 19 = .ok (.iconst 3, 1) := by decide +kernel
theorem dX12_refusesSet_20 : decode cX12_refusesSet 20 = .ok (.invokestatic 101, 3) := by decide +kernel
theorem dX12_refusesSet_23 : decode cX12_refusesSet 23 = .ok (.ifCond .ne 5, 3) := by decide +kernel
theorem dX12_refusesSet_26 : decode cX12_refusesSet 26 = .ok (.iconst (-1), 1) := by decide +kernel
theorem dX12_refusesSet_27 : decode cX12_refusesSet 27 = .ok (.ireturn, 1) := by decide +kernel
theorem dX12_refusesSet_28 : decode cX12_refusesSet 28 = .ok (.aload_n 0, 1) := by decide +kernel
theorem dX12_refusesSet_29 : decode cX12_refusesSet 29 = .ok (.iload_n 1, 1) := by decide +kernel
theorem dX12_refusesSet_30 : decode cX12_refusesSet 30 = .ok (.ifCond .ne 8, 3) := by decide +kernel
theorem dX12_refusesSet_33 : decode cX12_refusesSet 33 = .ok (.bipush 102, 2) := by decide +kernel
theorem dX12_refusesSet_35 : decode cX12_refusesSet 35 = .ok (.goto 5, 3) := by decide +kernel
theorem dX12_refusesSet_38 : decode cX12_refusesSet 38 = .ok (.bipush 105, 2) := by decide +kernel
theorem dX12_refusesSet_40 : decode cX12_refusesSet 40 = .ok (.iaload, 1) := by decide +kernel
theorem dX12_refusesSet_41 : decode cX12_refusesSet 41 = .ok (.iload_n 2, 1) := by decide +kernel
theorem dX12_refusesSet_42 : decode cX12_refusesSet 42 = .ok (.if_icmp .ne 8, 3) := by decide +kernel
theorem dX12_refusesSet_45 : decode cX12_refusesSet 45 = .ok (.bipush (-2), 2) := by decide +kernel
theorem dX12_refusesSet_47 : decode cX12_refusesSet 47 = .ok (.goto 4, 3) := by decide +kernel
theorem dX12_refusesSet_50 : decode cX12_refusesSet 50 = .ok (.iconst 0, 1) := by decide +kernel
theorem dX12_refusesSet_51 : decode cX12_refusesSet 51 = .ok (.ireturn, 1) := by decide +kernel
theorem dX12_sets_0 : decode cX12_sets 0 = .ok (.aload_n 0, 1) := by decide +kernel
theorem dX12_sets_1 : decode cX12_sets 1 = .ok (.iconst 0, 1) := by decide +kernel
theorem dX12_sets_2 : decode cX12_sets 2 = .ok (.putfield 94, 3) := by decide +kernel
theorem dX12_sets_5 : decode cX12_sets 5 = .ok (.aload_n 0, 1) := by decide +kernel
theorem dX12_sets_6 : decode cX12_sets 6 = .ok (.getfield 9, 3) := by decide +kernel
theorem dX12_sets_9 : decode cX12_sets 9 = .ok (.iload_n 1, 1) := by decide +kernel
theorem dX12_sets_10 : decode cX12_sets 10 = .ok (.iload_n 2, 1) := by decide +kernel
theorem dX12_sets_11 : decode cX12_sets 11 = .ok (.invokestatic 252, 3) := by decide +kernel
theorem dX12_sets_14 : decode cX12_sets 14 = .ok (.istore_n 3, 1) := by decide +kernel
theorem dX12_sets_15 : decode cX12_sets 15 = .ok (.iload_n 3, 1) := by decide +kernel
theorem dX12_sets_16 : decode cX12_sets 16 = .ok (.ifCond .ge 5, 3) := by decide +kernel
theorem dX12_sets_19 : decode cX12_sets 19 = .ok (.iload_n 3, 1) := by decide +kernel
theorem dX12_sets_20 : decode cX12_sets 20 = .ok (.ireturn, 1) := by decide +kernel
theorem dX12_sets_21 : decode cX12_sets 21 = .ok (.aload_n 0, 1) := by decide +kernel
theorem dX12_sets_22 : decode cX12_sets 22 = .ok (.aload_n 0, 1) := by decide +kernel
theorem dX12_sets_23 : decode cX12_sets 23 = .ok (.getfield 9, 3) := by decide +kernel
theorem dX12_sets_26 : decode cX12_sets 26 = .ok (.invokevirtual 165, 3) := by decide +kernel
theorem dX12_sets_29 : decode cX12_sets 29 = .ok (.iload_n 1, 1) := by decide +kernel
theorem dX12_sets_30 : decode cX12_sets 30 = .ok (.ifCond .ne 8, 3) := by decide +kernel
theorem dX12_sets_33 : decode cX12_sets 33 = .ok (.bipush 102, 2) := by decide +kernel
theorem dX12_sets_35 : decode cX12_sets 35 = .ok (.goto 5, 3) := by decide +kernel
theorem dX12_sets_38 : decode cX12_sets 38 = .ok (.bipush 105, 2) := by decide +kernel
theorem dX12_sets_40 : decode cX12_sets 40 = .ok (.istore 4, 2) := by decide +kernel
theorem dX12_sets_42 : decode cX12_sets 42 = .ok (.aload_n 0, 1) := by decide +kernel
theorem dX12_sets_43 : decode cX12_sets 43 = .ok (.getfield 9, 3) := by decide +kernel
theorem dX12_sets_46 : decode cX12_sets 46 = .ok (.iload 4, 2) := by decide +kernel
theorem dX12_sets_48 : decode cX12_sets 48 = .ok (.iaload, 1) := by decide +kernel
theorem dX12_sets_49 : decode cX12_sets 49 = .ok (.istore 5, 2) := by decide +kernel
theorem dX12_sets_51 : decode cX12_sets 51 = .ok (.aload_n 0, 1) := by decide +kernel
theorem dX12_sets_52 : decode cX12_sets 52 = .ok (.getfield 9, 3) := by decide +kernel
theorem dX12_sets_55 : decode cX12_sets 55 = .ok (.iload 4, 2) := by decide +kernel
theorem dX12_sets_57 : decode cX12_sets 57 = .ok (.iload_n 2, 1) := by decide +kernel
theorem dX12_sets_58 : decode cX12_sets 58 = .ok (.iastore, 1) := by decide +kernel
theorem dX12_sets_59 : decode cX12_sets 59 = .ok (.bipush 10, 2) := by decide +kernel
theorem dX12_sets_61 : decode cX12_sets 61 = .ok (.iload 5, 2) := by decide +kernel
theorem dX12_sets_63 : decode cX12_sets 63 = .ok (.iadd, 1) := by decide +kernel
theorem dX12_sets_64 : decode cX12_sets 64 = .ok (.ireturn, 1) := by decide +kernel
theorem dX12_canEnd_0 : decode cX12_canEnd 0 = .ok (.iload_n 0, 1) := by decide +kernel
theorem dX12_canEnd_1 : decode cX12_canEnd 1 = .ok (.iconst 0, 1) := by decide +kernel
theorem dX12_canEnd_2 : decode cX12_canEnd 2 = .ok (.bipush 6, 2) := by decide +kernel
theorem dX12_canEnd_4 : decode cX12_canEnd 4 = .ok (.invokestatic 101, 3) := by decide +kernel
theorem dX12_canEnd_7 : decode cX12_canEnd 7 = .ok (.ifCond .eq 22, 3) := by decide +kernel
theorem dX12_canEnd_10 : decode cX12_canEnd 10 = .ok (.iload_n 1, 1) := by decide +kernel
theorem dX12_canEnd_11 : decode cX12_canEnd 11 = .ok (.iconst 0, 1) := by decide +kernel
theorem dX12_canEnd_12 : decode cX12_canEnd 12 = .ok (.bipush 6, 2) := by decide +kernel
theorem dX12_canEnd_14 : decode cX12_canEnd 14 = .ok (.invokestatic 101, 3) := by decide +kernel
theorem dX12_canEnd_17 : decode cX12_canEnd 17 = .ok (.ifCond .eq 12, 3) := by decide +kernel
theorem dX12_canEnd_20 : decode cX12_canEnd 20 = .ok (.iload_n 0, 1) := by decide +kernel
theorem dX12_canEnd_21 : decode cX12_canEnd 21 = .ok (.iload_n 1, 1) := by decide +kernel
theorem dX12_canEnd_22 : decode cX12_canEnd 22 = .ok (.if_icmp .eq 7, 3) := by decide +kernel
theorem dX12_canEnd_25 : decode cX12_canEnd 25 = .ok (.iconst 1, 1) := by decide +kernel
theorem dX12_canEnd_26 : decode cX12_canEnd 26 = .ok (.goto 4, 3) := by decide +kernel
theorem dX12_canEnd_29 : decode cX12_canEnd 29 = .ok (.iconst 0, 1) := by decide +kernel
theorem dX12_canEnd_30 : decode cX12_canEnd 30 = .ok (.ireturn, 1) := by decide +kernel
theorem dX12_endsOf_0 : decode cX12_endsOf 0 = .ok (.bipush 10, 2) := by decide +kernel
theorem dX12_endsOf_2 : decode cX12_endsOf 2 = .ok (.aload_n 0, 1) := by decide +kernel
theorem dX12_endsOf_3 : decode cX12_endsOf 3 = .ok (.bipush 103, 2) := by decide +kernel
theorem dX12_endsOf_5 : decode cX12_endsOf 5 = .ok (.iaload, 1) := by decide +kernel
theorem dX12_endsOf_6 : decode cX12_endsOf 6 = .ok (.imul, 1) := by decide +kernel
theorem dX12_endsOf_7 : decode cX12_endsOf 7 = .ok (.aload_n 0, 1) := by decide +kernel
theorem dX12_endsOf_8 : decode cX12_endsOf 8 = .ok (.bipush 104, 2) := by decide +kernel
theorem dX12_endsOf_10 : decode cX12_endsOf 10 = .ok (.iaload, 1) := by decide +kernel
theorem dX12_endsOf_11 : decode cX12_endsOf 11 = .ok (.iadd, 1) := by decide +kernel
theorem dX12_endsOf_12 : decode cX12_endsOf 12 = .ok (.ireturn, 1) := by decide +kernel
theorem dX12_ends_0 : decode cX12_ends 0 = .ok (.aload_n 0, 1) := by decide +kernel
theorem dX12_ends_1 : decode cX12_ends 1 = .ok (.iconst 0, 1) := by decide +kernel
theorem dX12_ends_2 : decode cX12_ends 2 = .ok (.putfield 94, 3) := by decide +kernel
theorem dX12_ends_5 : decode cX12_ends 5 = .ok (.iload_n 1, 1) := by decide +kernel
theorem dX12_ends_6 : decode cX12_ends 6 = .ok (.iload_n 2, 1) := by decide +kernel
theorem dX12_ends_7 : decode cX12_ends 7 = .ok (.invokestatic 255, 3) := by decide +kernel
theorem dX12_ends_10 : decode cX12_ends 10 = .ok (.ifCond .ne 5, 3) := by decide +kernel
theorem dX12_ends_13 : decode cX12_ends 13 = .ok (.iconst (-1), 1) := by decide +kernel
theorem dX12_ends_14 : decode cX12_ends 14 = .ok (.ireturn, 1) := by decide +kernel
theorem dX12_ends_15 : decode cX12_ends 15 = .ok (.aload_n 0, 1) := by decide +kernel
theorem dX12_ends_16 : decode cX12_ends 16 = .ok (.aload_n 0, 1) := by decide +kernel
theorem dX12_ends_17 : decode cX12_ends 17 = .ok (.getfield 9, 3) := by decide +kernel
theorem dX12_ends_20 : decode cX12_ends 20 = .ok (.invokevirtual 165, 3) := by decide +kernel
theorem dX12_ends_23 : decode cX12_ends 23 = .ok (.aload_n 0, 1) := by decide +kernel
theorem dX12_ends_24 : decode cX12_ends 24 = .ok (.getfield 9, 3) := by decide +kernel
theorem dX12_ends_27 : decode cX12_ends 27 = .ok (.invokestatic 259, 3) := by decide +kernel
theorem dX12_ends_30 : decode cX12_ends 30 = .ok (.istore_n 3, 1) := by decide +kernel
theorem dX12_ends_31 : decode cX12_ends 31 = .ok (.aload_n 0, 1) := by decide +kernel
theorem dX12_ends_32 : decode cX12_ends 32 = .ok (.getfield 9, 3) := by decide +kernel
theorem dX12_ends_35 : decode cX12_ends 35 = .ok (.bipush 103, 2) := by decide +kernel
theorem dX12_ends_37 : decode cX12_ends 37 = .ok (.iload_n 1, 1) := by decide +kernel
theorem dX12_ends_38 : decode cX12_ends 38 = .ok (.iastore, 1) := by decide +kernel
theorem dX12_ends_39 : decode cX12_ends 39 = .ok (.aload_n 0, 1) := by decide +kernel
theorem dX12_ends_40 : decode cX12_ends 40 = .ok (.getfield 9, 3) := by decide +kernel
theorem dX12_ends_43 : decode cX12_ends 43 = .ok (.bipush 104, 2) := by decide +kernel
theorem dX12_ends_45 : decode cX12_ends 45 = .ok (.iload_n 2, 1) := by decide +kernel
theorem dX12_ends_46 : decode cX12_ends 46 = .ok (.iastore, 1) := by decide +kernel
theorem dX12_ends_47 : decode cX12_ends 47 = .ok (.iload_n 3, 1) := by decide +kernel
theorem dX12_ends_48 : decode cX12_ends 48 = .ok (.ireturn, 1) := by decide +kernel
theorem dX12_day_0 : decode cX12_day 0 = .ok (.aload_n 0, 1) := by decide +kernel
theorem dX12_day_1 : decode cX12_day 1 = .ok (.iconst 0, 1) := by decide +kernel
theorem dX12_day_2 : decode cX12_day 2 = .ok (.putfield 94, 3) := by decide +kernel
theorem dX12_day_5 : decode cX12_day 5 = .ok (.aload_n 0, 1) := by decide +kernel
theorem dX12_day_6 : decode cX12_day 6 = .ok (.bipush 60, 2) := by decide +kernel
theorem dX12_day_8 : decode cX12_day 8 = .ok (.invokevirtual 151, 3) := by decide +kernel
theorem dX12_day_11 : decode cX12_day 11 = .ok (.iconst 0, 1) := by decide +kernel
theorem dX12_day_12 : decode cX12_day 12 = .ok (.istore_n 1, 1) := by decide +kernel
theorem dX12_day_13 : decode cX12_day 13 = .ok (.aload_n 0, 1) := by decide +kernel
theorem dX12_day_14 : decode cX12_day 14 = .ok (.invokevirtual 131, 3) := by decide +kernel
theorem dX12_day_17 : decode cX12_day 17 = .ok (.ifCond .eq 27, 3) := by decide +kernel
theorem dX12_day_20 : decode cX12_day 20 = .ok (.aload_n 0, 1) := by decide +kernel
theorem dX12_day_21 : decode cX12_day 21 = .ok (.getfield 121, 3) := by decide +kernel
theorem dX12_day_24 : decode cX12_day 24 = .ok (.aload_n 0, 1) := by decide +kernel
theorem dX12_day_25 : decode cX12_day 25 = .ok (.getfield 115, 3) := by decide +kernel
theorem dX12_day_28 : decode cX12_day 28 = .ok (.if_icmp .ge 16, 3) := by decide +kernel
theorem dX12_day_31 : decode cX12_day 31 = .ok (.aload_n 0, 1) := by decide +kernel
theorem dX12_day_32 : decode cX12_day 32 = .ok (.iconst 4, 1) := by decide +kernel
theorem dX12_day_33 : decode cX12_day 33 = .ok (.iload_n 1, 1) := by decide +kernel
theorem dX12_day_34 : decode cX12_day 34 = .ok (.imul, 1) := by decide +kernel
theorem dX12_day_35 : decode cX12_day 35 = .ok (.invokevirtual 262, 3) := by decide +kernel
theorem dX12_day_38 : decode cX12_day 38 = .ok (.iinc 1 1, 3) := by decide +kernel
theorem dX12_day_41 : decode cX12_day 41 = .ok (.goto (-28), 3) := by decide +kernel
theorem dX12_day_44 : decode cX12_day 44 = .ok (.aload_n 0, 1) := by decide +kernel
theorem dX12_day_45 : decode cX12_day 45 = .ok (.invokevirtual 158, 3) := by decide +kernel
theorem dX12_day_48 : decode cX12_day 48 = .ok (.ifCond .ne 10, 3) := by decide +kernel
theorem dX12_day_51 : decode cX12_day 51 = .ok (.iconst (-1), 1) := by decide +kernel
theorem dX12_day_52 : decode cX12_day 52 = .ok (.aload_n 0, 1) := by decide +kernel
theorem dX12_day_53 : decode cX12_day 53 = .ok (.getfield 124, 3) := by decide +kernel
theorem dX12_day_56 : decode cX12_day 56 = .ok (.isub, 1) := by decide +kernel
theorem dX12_day_57 : decode cX12_day 57 = .ok (.ireturn, 1) := by decide +kernel
theorem dX12_day_58 : decode cX12_day 58 = .ok (.aload_n 0, 1) := by decide +kernel
theorem dX12_day_59 : decode cX12_day 59 = .ok (.getfield 9, 3) := by decide +kernel
theorem dX12_day_62 : decode cX12_day 62 = .ok (.aload_n 0, 1) := by decide +kernel
theorem dX12_day_63 : decode cX12_day 63 = .ok (.getfield 36, 3) := by decide +kernel
theorem dX12_day_66 : decode cX12_day 66 = .ok (.iconst 0, 1) := by decide +kernel
theorem dX12_day_67 : decode cX12_day 67 = .ok (.invokestatic 231, 3) := by decide +kernel
theorem dX12_day_70 : decode cX12_day 70 = .ok (.iconst 0, 1) := by decide +kernel
theorem dX12_day_71 : decode cX12_day 71 = .ok (.istore_n 2, 1) := by decide +kernel
theorem dX12_day_72 : decode cX12_day 72 = .ok (.iload_n 2, 1) := by decide +kernel
theorem dX12_day_73 : decode cX12_day 73 = .ok (.iload_n 1, 1) := by decide +kernel
theorem dX12_day_74 : decode cX12_day 74 = .ok (.if_icmp .ge 54, 3) := by decide +kernel
theorem dX12_day_77 : decode cX12_day 77 = .ok (.aload_n 0, 1) := by decide +kernel
theorem dX12_day_78 : decode cX12_day 78 = .ok (.aload_n 0, 1) := by decide +kernel
theorem dX12_day_79 : decode cX12_day 79 = .ok (.getfield 42, 3) := by decide +kernel
theorem dX12_day_82 : decode cX12_day 82 = .ok (.iconst 4, 1) := by decide +kernel
theorem dX12_day_83 : decode cX12_day 83 = .ok (.iload_n 2, 1) := by decide +kernel
theorem dX12_day_84 : decode cX12_day 84 = .ok (.imul, 1) := by decide +kernel
theorem dX12_day_85 : decode cX12_day 85 = .ok (.iaload, 1) := by decide +kernel
theorem dX12_day_86 : decode cX12_day 86 = .ok (.aload_n 0, 1) := by decide +kernel
theorem dX12_day_87 : decode cX12_day 87 = .ok (.getfield 42, 3) := by decide +kernel
theorem dX12_day_90 : decode cX12_day 90 = .ok (.iconst 4, 1) := by decide +kernel
theorem dX12_day_91 : decode cX12_day 91 = .ok (.iload_n 2, 1) := by decide +kernel
theorem dX12_day_92 : decode cX12_day 92 = .ok (.imul, 1) := by decide +kernel
theorem dX12_day_93 : decode cX12_day 93 = .ok (.iconst 1, 1) := by decide +kernel
theorem dX12_day_94 : decode cX12_day 94 = .ok (.iadd, 1) := by decide +kernel
theorem dX12_day_95 : decode cX12_day 95 = .ok (.iaload, 1) := by decide +kernel
theorem dX12_day_96 : decode cX12_day 96 = .ok (.aload_n 0, 1) := by decide +kernel
theorem dX12_day_97 : decode cX12_day 97 = .ok (.getfield 42, 3) := by decide +kernel
theorem dX12_day_100 : decode cX12_day 100 = .ok (.iconst 4, 1) := by decide +kernel
theorem dX12_day_101 : decode cX12_day 101 = .ok (.iload_n 2, 1) := by decide +kernel
theorem dX12_day_102 : decode cX12_day 102 = .ok (.imul, 1) := by decide +kernel
theorem dX12_day_103 : decode cX12_day 103 = .ok (.iconst 2, 1) := by decide +kernel
theorem dX12_day_104 : decode cX12_day 104 = .ok (.iadd, 1) := by decide +kernel
theorem dX12_day_105 : decode cX12_day 105 = .ok (.iaload, 1) := by decide +kernel
theorem dX12_day_106 : decode cX12_day 106 = .ok (.aload_n 0, 1) := by decide +kernel
theorem dX12_day_107 : decode cX12_day 107 = .ok (.getfield 42, 3) := by decide +kernel
theorem dX12_day_110 : decode cX12_day 110 = .ok (.iconst 4, 1) := by decide +kernel
theorem dX12_day_111 : decode cX12_day 111 = .ok (.iload_n 2, 1) := by decide +kernel
theorem dX12_day_112 : decode cX12_day 112 = .ok (.imul, 1) := by decide +kernel
theorem dX12_day_113 : decode cX12_day 113 = .ok (.iconst 3, 1) := by decide +kernel
