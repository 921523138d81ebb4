theorem dX7_init_0 : decode cX7_init 0 = .ok (.aload_n 0, 1) := by decide +kernel
theorem dX7_init_1 : decode cX7_init 1 = .ok (.invokespecial 3, 3) := by decide +kernel
theorem dX7_init_4 : decode cX7_init 4 = .ok (.aload_n 0, 1) := by decide +kernel
theorem dX7_init_5 : decode cX7_init 5 = .ok (.bipush 40, 2) := by decide +kernel
theorem dX7_init_7 : decode cX7_init 7 = .ok (.newarray .int, 2) := by decide +kernel
theorem dX7_init_9 : decode cX7_init 9 = .ok (.putfield 9, 3) := by decide +kernel
theorem dX7_init_12 : decode cX7_init 12 = .ok (.aload_n 0, 1) := by decide +kernel
theorem dX7_init_13 : decode cX7_init 13 = .ok (.bipush 40, 2) := by decide +kernel
theorem dX7_init_15 : decode cX7_init 15 = .ok (.newarray .int, 2) := by decide +kernel
theorem dX7_init_17 : decode cX7_init 17 = .ok (.putfield 15, 3) := by decide +kernel
theorem dX7_init_20 : decode cX7_init 20 = .ok (.aload_n 0, 1) := by decide +kernel
theorem dX7_init_21 : decode cX7_init 21 = .ok (.iconst 5, 1) := by decide +kernel
theorem dX7_init_22 : decode cX7_init 22 = .ok (.newarray .boolean, 2) := by decide +kernel
theorem dX7_init_24 : decode cX7_init 24 = .ok (.putfield 18, 3) := by decide +kernel
theorem dX7_init_27 : decode cX7_init 27 = .ok (.aload_n 0, 1) := by decide +kernel
theorem dX7_init_28 : decode cX7_init 28 = .ok (.bipush 40, 2) := by decide +kernel
theorem dX7_init_30 : decode cX7_init 30 = .ok (.newarray .int, 2) := by decide +kernel
theorem dX7_init_32 : decode cX7_init 32 = .ok (.putfield 22, 3) := by decide +kernel
theorem dX7_init_35 : decode cX7_init 35 = .ok (.aload_n 0, 1) := by decide +kernel
theorem dX7_init_36 : decode cX7_init 36 = .ok (.getfield 9, 3) := by decide +kernel
theorem dX7_init_39 : decode cX7_init 39 = .ok (.iconst 0, 1) := by decide +kernel
theorem dX7_init_40 : decode cX7_init 40 = .ok (.sipush 1115, 3) := by decide +kernel
theorem dX7_init_43 : decode cX7_init 43 = .ok (.iastore, 1) := by decide +kernel
theorem dX7_init_44 : decode cX7_init 44 = .ok (.aload_n 0, 1) := by decide +kernel
theorem dX7_init_45 : decode cX7_init 45 = .ok (.iconst 1, 1) := by decide +kernel
theorem dX7_init_46 : decode cX7_init 46 = .ok (.putfield 25, 3) := by decide +kernel
theorem dX7_init_49 : decode cX7_init 49 = .ok (.return_, 1) := by decide +kernel
theorem dX7_read_0 : decode cX7_read 0 = .ok (.aload_n 0, 1) := by decide +kernel
theorem dX7_read_1 : decode cX7_read 1 = .ok (.iconst 0, 1) := by decide +kernel
theorem dX7_read_2 : decode cX7_read 2 = .ok (.putfield 25, 3) := by decide +kernel
theorem dX7_read_5 : decode cX7_read 5 = .ok (.aload_n 0, 1) := by decide +kernel
theorem dX7_read_6 : decode cX7_read 6 = .ok (.iconst 0, 1) := by decide +kernel
theorem dX7_read_7 : decode cX7_read 7 = .ok (.putfield 29, 3) := by decide +kernel
theorem dX7_read_10 : decode cX7_read 10 = .ok (.aload_n 0, 1) := by decide +kernel
theorem dX7_read_11 : decode cX7_read 11 = .ok (.iconst 0, 1) := by decide +kernel
theorem dX7_read_12 : decode cX7_read 12 = .ok (.putfield 32, 3) := by decide +kernel
theorem dX7_read_15 : decode cX7_read 15 = .ok (.aload_n 0, 1) := by decide +kernel
theorem dX7_read_16 : decode cX7_read 16 = .ok (.getfield 18, 3) := by decide +kernel
theorem dX7_read_19 : decode cX7_read 19 = .ok (.iconst 0, 1) := by decide +kernel
theorem dX7_read_20 : decode cX7_read 20 = .ok (.iconst 0, 1) := by decide +kernel
theorem dX7_read_21 : decode cX7_read 21 = .ok (.bastore, 1) := by decide +kernel
theorem dX7_read_22 : decode cX7_read 22 = .ok (.aload_n 1, 1) := by decide +kernel
theorem dX7_read_23 : decode cX7_read 23 = .ok (.invokevirtual 35, 3) := by decide +kernel
theorem dX7_read_26 : decode cX7_read 26 = .ok (.ifCond .ne 12, 3) := by decide +kernel
theorem dX7_read_29 : decode cX7_read 29 = .ok (.aload_n 0, 1) := by decide +kernel
theorem dX7_read_30 : decode cX7_read 30 = .ok (.sipush 1115, 3) := by decide +kernel
theorem dX7_read_33 : decode cX7_read 33 = .ok (.invokevirtual 40, 3) := by decide +kernel
theorem dX7_read_36 : decode cX7_read 36 = .ok (.iconst (-1), 1) := by decide +kernel
theorem dX7_read_37 : decode cX7_read 37 = .ok (.ireturn, 1) := by decide +kernel
theorem dX7_read_38 : decode cX7_read 38 = .ok (.aload_n 1, 1) := by decide +kernel
theorem dX7_read_39 : decode cX7_read 39 = .ok (.invokevirtual 35, 3) := by decide +kernel
theorem dX7_read_42 : decode cX7_read 42 = .ok (.bipush 40, 2) := by decide +kernel
theorem dX7_read_44 : decode cX7_read 44 = .ok (.invokestatic 44, 3) := by decide +kernel
theorem dX7_read_47 : decode cX7_read 47 = .ok (.istore_n 2, 1) := by decide +kernel
theorem dX7_read_48 : decode cX7_read 48 = .ok (.iconst 1, 1) := by decide +kernel
theorem dX7_read_49 : decode cX7_read 49 = .ok (.istore_n 3, 1) := by decide +kernel
theorem dX7_read_50 : decode cX7_read 50 = .ok (.iconst 0, 1) := by decide +kernel
theorem dX7_read_51 : decode cX7_read 51 = .ok (.istore 4, 2) := by decide +kernel
theorem dX7_read_53 : decode cX7_read 53 = .ok (.iload 4, 2) := by decide +kernel
theorem dX7_read_55 : decode cX7_read 55 = .ok (.iload_n 2, 1) := by decide +kernel
theorem dX7_read_56 : decode cX7_read 56 = .ok (.if_icmp .ge 94, 3) := by decide +kernel
theorem dX7_read_59 : decode cX7_read 59 = .ok (.aload_n 1, 1) := by decide +kernel
theorem dX7_read_60 : decode cX7_read 60 = .ok (.iload 4, 2) := by decide +kernel
theorem dX7_read_62 : decode cX7_read 62 = .ok (.invokevirtual 50, 3) := by decide +kernel
theorem dX7_read_65 : decode cX7_read 65 = .ok (.istore 5, 2) := by decide +kernel
theorem dX7_read_67 : decode cX7_read 67 = .ok (.iload_n 3, 1) := by decide +kernel
theorem dX7_read_68 : decode cX7_read 68 = .ok (.ifCond .eq 51, 3) := by decide +kernel
theorem dX7_read_71 : decode cX7_read 71 = .ok (.aload_n 0, 1) := by decide +kernel
theorem dX7_read_72 : decode cX7_read 72 = .ok (.aload_n 1, 1) := by decide +kernel
theorem dX7_read_73 : decode cX7_read 73 = .ok (.iload 4, 2) := by decide +kernel
theorem dX7_read_75 : decode cX7_read 75 = .ok (.iload_n 2, 1) := by decide +kernel
theorem dX7_read_76 : decode cX7_read 76 = .ok (.invokevirtual 54, 3) := by decide +kernel
theorem dX7_read_79 : decode cX7_read 79 = .ok (.istore 6, 2) := by decide +kernel
theorem dX7_read_81 : decode cX7_read 81 = .ok (.iload 6, 2) := by decide +kernel
theorem dX7_read_83 : decode cX7_read 83 = .ok (.ifCond .ne 6, 3) := by decide +kernel
theorem dX7_read_86 : decode cX7_read 86 = .ok (.iload 4, 2) := by decide +kernel
theorem dX7_read_88 : decode cX7_read 88 = .ok (.ireturn, 1) := by decide +kernel
theorem dX7_read_89 : decode cX7_read 89 = .ok (.iload 5, 2) := by decide +kernel
theorem dX7_read_91 : decode cX7_read 91 = .ok (.bipush 45, 2) := by decide +kernel
theorem dX7_read_93 : decode cX7_read 93 = .ok (.if_icmp .eq 10, 3) := by decide +kernel
theorem dX7_read_96 : decode cX7_read 96 = .ok (.iload 5, 2) := by decide +kernel
theorem dX7_read_98 : decode cX7_read 98 = .ok (.bipush 40, 2) := by decide +kernel
theorem dX7_read_100 : decode cX7_read 100 = .ok (.if_icmp .ne 7, 3) := by decide +kernel
theorem dX7_read_103 : decode cX7_read 103 = .ok (.iconst 1, 1) := by decide +kernel
theorem dX7_read_104 : decode cX7_read 104 = .ok (.goto 4, 3) := by decide +kernel
theorem dX7_read_107 : decode cX7_read 107 = .ok (.iconst 0, 1) := by decide +kernel
theorem dX7_read_108 : decode cX7_read 108 = .ok (.istore_n 3, 1) := by decide +kernel
theorem dX7_read_109 : decode cX7_read 109 = .ok (.iload 4, 2) := by decide +kernel
theorem dX7_read_111 : decode cX7_read 111 = .ok (.iload 6, 2) := by decide +kernel
theorem dX7_read_113 : decode cX7_read 113 = .ok (.iadd, 1) := by decide +kernel
theorem dX7_read_114 : decode cX7_read 114 = .ok (.istore 4, 2) := by decide +kernel
theorem dX7_read_116 : decode cX7_read 116 = .ok (.goto 31, 3) := by decide +kernel
theorem dX7_read_119 : decode cX7_read 119 = .ok (.aload_n 0, 1) := by decide +kernel
theorem dX7_read_120 : decode cX7_read 120 = .ok (.iload 5, 2) := by decide +kernel
theorem dX7_read_122 : decode cX7_read 122 = .ok (.invokevirtual 58, 3) := by decide +kernel
theorem dX7_read_125 : decode cX7_read 125 = .ok (.ifCond .ne 6, 3) := by decide +kernel
theorem dX7_read_128 : decode cX7_read 128 = .ok (.iload 4, 2) := by decide +kernel
theorem dX7_read_130 : decode cX7_read 130 = .ok (.ireturn, 1) := by decide +kernel
theorem dX7_read_131 : decode cX7_read 131 = .ok (.iload 5, 2) := by decide +kernel
theorem dX7_read_133 : decode cX7_read 133 = .ok (.bipush 41, 2) := by decide +kernel
theorem dX7_read_135 : decode cX7_read 135 = .ok (.if_icmp .eq 7, 3) := by decide +kernel
theorem dX7_read_138 : decode cX7_read 138 = .ok (.iconst 1, 1) := by decide +kernel
theorem dX7_read_139 : decode cX7_read 139 = .ok (.goto 4, 3) := by decide +kernel
theorem dX7_read_142 : decode cX7_read 142 = .ok (.iconst 0, 1) := by decide +kernel
theorem dX7_read_143 : decode cX7_read 143 = .ok (.istore_n 3, 1) := by decide +kernel
theorem dX7_read_144 : decode cX7_read 144 = .ok (.iinc 4 1, 3) := by decide +kernel
theorem dX7_read_147 : decode cX7_read 147 = .ok (.goto (-94), 3) := by decide +kernel
theorem dX7_read_150 : decode cX7_read 150 = .ok (.iload_n 3, 1) := by decide +kernel
theorem dX7_read_151 : decode cX7_read 151 = .ok (.ifCond .ne 19, 3) := by decide +kernel
theorem dX7_read_154 : decode cX7_read 154 = .ok (.aload_n 0, 1) := by decide +kernel
theorem dX7_read_155 : decode cX7_read 155 = .ok (.getfield 32, 3) := by decide +kernel
theorem dX7_read_158 : decode cX7_read 158 = .ok (.ifCond .gt 12, 3) := by decide +kernel
theorem dX7_read_161 : decode cX7_read 161 = .ok (.aload_n 1, 1) := by decide +kernel
theorem dX7_read_162 : decode cX7_read 162 = .ok (.invokevirtual 35, 3) := by decide +kernel
theorem dX7_read_165 : decode cX7_read 165 = .ok (.bipush 40, 2) := by decide +kernel
theorem dX7_read_167 : decode cX7_read 167 = .ok (.if_icmp .le 5, 3) := by decide +kernel
theorem dX7_read_170 : decode cX7_read 170 = .ok (.iload_n 2, 1) := by decide +kernel
theorem dX7_read_171 : decode cX7_read 171 = .ok (.ireturn, 1) := by decide +kernel
theorem dX7_read_172 : decode cX7_read 172 = .ok (.aload_n 0, 1) := by decide +kernel
theorem dX7_read_173 : decode cX7_read 173 = .ok (.iconst 0, 1) := by decide +kernel
theorem dX7_read_174 : decode cX7_read 174 = .ok (.invokevirtual 62, 3) := by decide +kernel
theorem dX7_read_177 : decode cX7_read 177 = .ok (.iconst (-1), 1) := by decide +kernel
theorem dX7_read_178 : decode cX7_read 178 = .ok (.ireturn, 1) := by decide +kernel
theorem dX7_startThing_0 : decode cX7_startThing 0 = .ok (.aload_n 1, 1) := by decide +kernel
theorem dX7_startThing_1 : decode cX7_startThing 1 = .ok (.iload_n 2, 1) := by decide +kernel
theorem dX7_startThing_2 : decode cX7_startThing 2 = .ok (.invokevirtual 50, 3) := by decide +kernel
theorem dX7_startThing_5 : decode cX7_startThing 5 = .ok (.istore 4, 2) := by decide +kernel
theorem dX7_startThing_7 : decode cX7_startThing 7 = .ok (.aload_n 1, 1) := by decide +kernel
theorem dX7_startThing_8 : decode cX7_startThing 8 = .ok (.iload_n 2, 1) := by decide +kernel
theorem dX7_startThing_9 : decode cX7_startThing 9 = .ok (.invokevirtual 65, 3) := by decide +kernel
theorem dX7_startThing_12 : decode cX7_startThing 12 = .ok (.ifCond .eq 11, 3) := by decide +kernel
theorem dX7_startThing_15 : decode cX7_startThing 15 = .ok (.aload_n 0, 1) := by decide +kernel
theorem dX7_startThing_16 : decode cX7_startThing 16 = .ok (.aload_n 1, 1) := by decide +kernel
theorem dX7_startThing_17 : decode cX7_startThing 17 = .ok (.iload_n 2, 1) := by decide +kernel
theorem dX7_startThing_18 : decode cX7_startThing 18 = .ok (.iload_n 3, 1) := by decide +kernel
theorem dX7_startThing_19 : decode cX7_startThing 19 = .ok (.invokevirtual 69, 3) := by decide +kernel
theorem dX7_startThing_22 : decode cX7_startThing 22 = .ok (.ireturn, 1) := by decide +kernel
theorem dX7_startThing_23 : decode cX7_startThing 23 = .ok (.iload 4, 2) := by decide +kernel
theorem dX7_startThing_25 : decode cX7_startThing 25 = .ok (.bipush 45, 2) := by decide +kernel
theorem dX7_startThing_27 : decode cX7_startThing 27 = .ok (.if_icmp .ne 12, 3) := by decide +kernel
theorem dX7_startThing_30 : decode cX7_startThing 30 = .ok (.aload_n 0, 1) := by decide +kernel
theorem dX7_startThing_31 : decode cX7_startThing 31 = .ok (.sipush 256, 3) := by decide +kernel
theorem dX7_startThing_34 : decode cX7_startThing 34 = .ok (.invokevirtual 72, 3) := by decide +kernel
theorem dX7_startThing_37 : decode cX7_startThing 37 = .ok (.iconst 1, 1) := by decide +kernel
theorem dX7_startThing_38 : decode cX7_startThing 38 = .ok (.ireturn, 1) := by decide +kernel
theorem dX7_startThing_39 : decode cX7_startThing 39 = .ok (.iload 4, 2) := by decide +kernel
theorem dX7_startThing_41 : decode cX7_startThing 41 = .ok (.bipush 40, 2) := by decide +kernel
theorem dX7_startThing_43 : decode cX7_startThing 43 = .ok (.if_icmp .ne 16, 3) := by decide +kernel
theorem dX7_startThing_46 : decode cX7_startThing 46 = .ok (.aload_n 0, 1) := by decide +kernel
theorem dX7_startThing_47 : decode cX7_startThing 47 = .ok (.invokevirtual 75, 3) := by decide +kernel
theorem dX7_startThing_50 : decode cX7_startThing 50 = .ok (.ifCond .eq 7, 3) := by decide +kernel
theorem dX7_startThing_53 : decode cX7_startThing 53 = .ok (.iconst 1, 1) := by decide +kernel
theorem dX7_startThing_54 : decode cX7_startThing 54 = .ok (.goto 4, 3) := by decide +kernel
theorem dX7_startThing_57 : decode cX7_startThing 57 = .ok (.iconst 0, 1) := by decide +kernel
theorem dX7_startThing_58 : decode cX7_startThing 58 = .ok (.ireturn, 1) := by decide +kernel
theorem dX7_startThing_59 : decode cX7_startThing 59 = .ok (.iload 4, 2) := by decide +kernel
theorem dX7_startThing_61 : decode cX7_startThing 61 = .ok (.invokestatic 79, 3) := by decide +kernel
theorem dX7_startThing_64 : decode cX7_startThing 64 = .ok (.ifCond .ne 5, 3) := by decide +kernel
theorem dX7_startThing_67 : decode cX7_startThing 67 = .ok (.iconst 0, 1) := by decide +kernel
theorem dX7_startThing_68 : decode cX7_startThing 68 = .ok (.ireturn, 1) := by decide +kernel
theorem dX7_startThing_69 : decode cX7_startThing 69 = .ok (.aload_n 0, 1) := by decide +kernel
theorem dX7_startThing_70 : decode cX7_startThing 70 = .ok (.sipush 1000, 3) := by decide +kernel
theorem dX7_startThing_73 : decode cX7_startThing 73 = .ok (.iload 4, 2) := by decide +kernel
theorem dX7_startThing_75 : decode cX7_startThing 75 = .ok (.iadd, 1) := by decide +kernel
theorem dX7_startThing_76 : decode cX7_startThing 76 = .ok (.invokevirtual 40, 3) := by decide +kernel
theorem dX7_startThing_79 : decode cX7_startThing 79 = .ok (.iconst 1, 1) := by decide +kernel
theorem dX7_startThing_80 : decode cX7_startThing 80 = .ok (.ireturn, 1) := by decide +kernel
theorem dX7_readNumber_0 : decode cX7_readNumber 0 = .ok (.iconst 0, 1) := by decide +kernel
theorem dX7_readNumber_1 : decode cX7_readNumber 1 = .ok (.istore 4, 2) := by decide +kernel
theorem dX7_readNumber_3 : decode cX7_readNumber 3 = .ok (.iconst 0, 1) := by decide +kernel
theorem dX7_readNumber_4 : decode cX7_readNumber 4 = .ok (.istore 5, 2) := by decide +kernel
theorem dX7_readNumber_6 : decode cX7_readNumber 6 = .ok (.iload 5, 2) := by decide +kernel
theorem dX7_readNumber_8 : decode cX7_readNumber 8 = .ok (.iconst 3, 1) := by decide +kernel
theorem dX7_readNumber_9 : decode cX7_readNumber 9 = .ok (.if_icmp .ge 44, 3) := by decide +kernel
theorem dX7_readNumber_12 : decode cX7_readNumber 12 = .ok (.iload_n 2, 1) := by decide +kernel
theorem dX7_readNumber_13 : decode cX7_readNumber 13 = .ok (.iload 5, 2) := by decide +kernel
theorem dX7_readNumber_15 : decode cX7_readNumber 15 = .ok (.iadd, 1) := by decide +kernel
theorem dX7_readNumber_16 : decode cX7_readNumber 16 = .ok (.iload_n 3, 1) := by decide +kernel
theorem dX7_readNumber_17 : decode cX7_readNumber 17 = .ok (.if_icmp .ge 36, 3) := by decide +kernel
theorem dX7_readNumber_20 : decode cX7_readNumber 20 = .ok (.aload_n 1, 1) := by decide +kernel
theorem dX7_readNumber_21 : decode cX7_readNumber 21 = .ok (.iload_n 2, 1) := by decide +kernel
theorem dX7_readNumber_22 : decode cX7_readNumber 22 = .ok (.iload 5, 2) := by decide +kernel
theorem dX7_readNumber_24 : decode cX7_readNumber 24 = .ok (.iadd, 1) := by decide +kernel
theorem dX7_readNumber_25 : decode cX7_readNumber 25 = .ok (.invokevirtual 65, 3) := by decide +kernel
theorem dX7_readNumber_28 : decode cX7_readNumber 28 = .ok (.ifCond .eq 25, 3) := by decide +kernel
theorem dX7_readNumber_31 : decode cX7_readNumber 31 = .ok (.bipush 10, 2) := by decide +kernel
theorem dX7_readNumber_33 : decode cX7_readNumber 33 = .ok (.iload 4, 2) := by decide +kernel
theorem dX7_readNumber_35 : decode cX7_readNumber 35 = .ok (.imul, 1) := by decide +kernel
theorem dX7_readNumber_36 : decode cX7_readNumber 36 = .ok (.aload_n 1, 1) := by decide +kernel
theorem dX7_readNumber_37 : decode cX7_readNumber 37 = .ok (.iload_n 2, 1) := by decide +kernel
theorem dX7_readNumber_38 : decode cX7_readNumber 38 = .ok (.iload 5, 2) := by decide +kernel
theorem dX7_readNumber_40 : decode cX7_readNumber 40 = .ok (.iadd, 1) := by decide +kernel
theorem dX7_readNumber_41 : decode cX7_readNumber 41 = .ok (.invokevirtual 82, 3) := by decide +kernel
theorem dX7_readNumber_44 : decode cX7_readNumber 44 = .ok (.iadd, 1) := by decide +kernel
theorem dX7_readNumber_45 : decode cX7_readNumber 45 = .ok (.istore 4, 2) := by decide +kernel
theorem dX7_readNumber_47 : decode cX7_readNumber 47 = .ok (.iinc 5 1, 3) := by decide +kernel
theorem dX7_readNumber_50 : decode cX7_readNumber 50 = .ok (.goto (-44), 3) := by decide +kernel
theorem dX7_readNumber_53 : decode cX7_readNumber 53 = .ok (.aload_n 0, 1) := by decide +kernel
theorem dX7_readNumber_54 : decode cX7_readNumber 54 = .ok (.iload 4, 2) := by decide +kernel
theorem dX7_readNumber_56 : decode cX7_readNumber 56 = .ok (.invokevirtual 40, 3) := by decide +kernel
theorem dX7_readNumber_59 : decode cX7_readNumber 59 = .ok (.iload 5, 2) := by decide +kernel
theorem dX7_readNumber_61 : decode cX7_readNumber 61 = .ok (.ireturn, 1) := by decide +kernel
theorem dX7_openBracket_0 : decode cX7_openBracket 0 = .ok (.aload_n 0, 1) := by decide +kernel
theorem dX7_openBracket_1 : decode cX7_openBracket 1 = .ok (.getfield 32, 3) := by decide +kernel
theorem dX7_openBracket_4 : decode cX7_openBracket 4 = .ok (.iconst 4, 1) := by decide +kernel
theorem dX7_openBracket_5 : decode cX7_openBracket 5 = .ok (.if_icmp .lt 5, 3) := by decide +kernel
theorem dX7_openBracket_8 : decode cX7_openBracket 8 = .ok (.iconst 0, 1) := by decide +kernel
theorem dX7_openBracket_9 : decode cX7_openBracket 9 = .ok (.ireturn, 1) := by decide +kernel
theorem dX7_openBracket_10 : decode cX7_openBracket 10 = .ok (.aload_n 0, 1) := by decide +kernel
theorem dX7_openBracket_11 : decode cX7_openBracket 11 = .ok (.bipush 40, 2) := by decide +kernel
theorem dX7_openBracket_13 : decode cX7_openBracket 13 = .ok (.invokevirtual 72, 3) := by decide +kernel
theorem dX7_openBracket_16 : decode cX7_openBracket 16 = .ok (.aload_n 0, 1) := by decide +kernel
theorem dX7_openBracket_17 : decode cX7_openBracket 17 = .ok (.dup, 1) := by decide +kernel
theorem dX7_openBracket_18 : decode cX7_openBracket 18 = .ok (.getfield 32, 3) := by decide +kernel
theorem dX7_openBracket_21 : decode cX7_openBracket 21 = .ok (.iconst 1, 1) := by decide +kernel
theorem dX7_openBracket_22 : decode cX7_openBracket 22 = .ok (.iadd, 1) := by decide +kernel
theorem dX7_openBracket_23 : decode cX7_openBracket 23 = .ok (.putfield 32, 3) := by decide +kernel
theorem dX7_openBracket_26 : decode cX7_openBracket 26 = .ok (.aload_n 0, 1) := by decide +kernel
theorem dX7_openBracket_27 : decode cX7_openBracket 27 = .ok (.getfield 18, 3) := by decide +kernel
theorem dX7_openBracket_30 : decode cX7_openBracket 30 = .ok (.aload_n 0, 1) := by decide +kernel
theorem dX7_openBracket_31 : decode cX7_openBracket 31 = .ok (.getfield 32, 3) := by decide +kernel
theorem dX7_openBracket_34 : decode cX7_openBracket 34 = .ok (.iconst 0, 1) := by decide +kernel
theorem dX7_openBracket_35 : decode cX7_openBracket 35 = .ok (.bastore, 1) := by decide +kernel
theorem dX7_openBracket_36 : decode cX7_openBracket 36 = .ok (.iconst 1, 1) := by decide +kernel
theorem dX7_openBracket_37 : decode cX7_openBracket 37 = .ok (.ireturn, 1) := by decide +kernel
theorem dX7_goOn_0 : decode cX7_goOn 0 = .ok (.iload_n 1, 1) := by decide +kernel
theorem dX7_goOn_1 : decode cX7_goOn 1 = .ok (.bipush 41, 2) := by decide +kernel
theorem dX7_goOn_3 : decode cX7_goOn 3 = .ok (.if_icmp .ne 8, 3) := by decide +kernel
theorem dX7_goOn_6 : decode cX7_goOn 6 = .ok (.aload_n 0, 1) := by decide +kernel
theorem dX7_goOn_7 : decode cX7_goOn 7 = .ok (.invokevirtual 86, 3) := by decide +kernel
theorem dX7_goOn_10 : decode cX7_goOn 10 = .ok (.ireturn, 1) := by decide +kernel
theorem dX7_goOn_11 : decode cX7_goOn 11 = .ok (.iload_n 1, 1) := by decide +kernel
theorem dX7_goOn_12 : decode cX7_goOn 12 = .ok (.invokestatic 89, 3) := by decide +kernel
theorem dX7_goOn_15 : decode cX7_goOn 15 = .ok (.istore_n 2, 1) := by decide +kernel
theorem dX7_goOn_16 : decode cX7_goOn 16 = .ok (.iload_n 2, 1) := by decide +kernel
theorem dX7_goOn_17 : decode cX7_goOn 17 = .ok (.ifCond .ne 5, 3) := by decide +kernel
theorem dX7_goOn_20 : decode cX7_goOn 20 = .ok (.iconst 0, 1) := by decide +kernel
theorem dX7_goOn_21 : decode cX7_goOn 21 = .ok (.ireturn, 1) := by decide +kernel
theorem dX7_goOn_22 : decode cX7_goOn 22 = .ok (.iload_n 2, 1) := by decide +kernel
theorem dX7_goOn_23 : decode cX7_goOn 23 = .ok (.iconst 1, 1) := by decide +kernel
theorem dX7_goOn_24 : decode cX7_goOn 24 = .ok (.if_icmp .ne 27, 3) := by decide +kernel
theorem dX7_goOn_27 : decode cX7_goOn 27 = .ok (.aload_n 0, 1) := by decide +kernel
theorem dX7_goOn_28 : decode cX7_goOn 28 = .ok (.getfield 18, 3) := by decide +kernel
theorem dX7_goOn_31 : decode cX7_goOn 31 = .ok (.aload_n 0, 1) := by decide +kernel
theorem dX7_goOn_32 : decode cX7_goOn 32 = .ok (.getfield 32, 3) := by decide +kernel
theorem dX7_goOn_35 : decode cX7_goOn 35 = .ok (.baload, 1) := by decide +kernel
theorem dX7_goOn_36 : decode cX7_goOn 36 = .ok (.ifCond .eq 5, 3) := by decide +kernel
theorem dX7_goOn_39 : decode cX7_goOn 39 = .ok (.iconst 0, 1) := by decide +kernel
theorem dX7_goOn_40 : decode cX7_goOn 40 = .ok (.ireturn, 1) := by decide +kernel
theorem dX7_goOn_41 : decode cX7_goOn 41 = .ok (.aload_n 0, 1) := by decide +kernel
theorem dX7_goOn_42 : decode cX7_goOn 42 = .ok (.getfield 18, 3) := by decide +kernel
theorem dX7_goOn_45 : decode cX7_goOn 45 = .ok (.aload_n 0, 1) := by decide +kernel
theorem dX7_goOn_46 : decode cX7_goOn 46 = .ok (.getfield 32, 3) := by decide +kernel
theorem dX7_goOn_49 : decode cX7_goOn 49 = .ok (.iconst 1, 1) := by decide +kernel
theorem dX7_goOn_50 : decode cX7_goOn 50 = .ok (.bastore, 1) := by decide +kernel
theorem dX7_goOn_51 : decode cX7_goOn 51 = .ok (.aload_n 0, 1) := by decide +kernel
theorem dX7_goOn_52 : decode cX7_goOn 52 = .ok (.iload_n 2, 1) := by decide +kernel
theorem dX7_goOn_53 : decode cX7_goOn 53 = .ok (.invokevirtual 62, 3) := by decide +kernel
theorem dX7_goOn_56 : decode cX7_goOn 56 = .ok (.aload_n 0, 1) := by decide +kernel
theorem dX7_goOn_57 : decode cX7_goOn 57 = .ok (.iload_n 1, 1) := by decide +kernel
theorem dX7_goOn_58 : decode cX7_goOn 58 = .ok (.invokevirtual 72, 3) := by decide +kernel
theorem dX7_goOn_61 : decode cX7_goOn 61 = .ok (.iconst 1, 1) := by decide +kernel
theorem dX7_goOn_62 : decode cX7_goOn 62 = .ok (.ireturn, 1) := by decide +kernel
theorem dX7_closeBracket_0 : decode cX7_closeBracket 0 = .ok (.aload_n 0, 1) := by decide +kernel
theorem dX7_closeBracket_1 : decode cX7_closeBracket 1 = .ok (.getfield 32, 3) := by decide +kernel
theorem dX7_closeBracket_4 : decode cX7_closeBracket 4 = .ok (.ifCond .ne 5, 3) := by decide +kernel
theorem dX7_closeBracket_7 : decode cX7_closeBracket 7 = .ok (.iconst 0, 1) := by decide +kernel
theorem dX7_closeBracket_8 : decode cX7_closeBracket 8 = .ok (.ireturn, 1) := by decide +kernel
theorem dX7_closeBracket_9 : decode cX7_closeBracket 9 = .ok (.aload_n 0, 1) := by decide +kernel
theorem dX7_closeBracket_10 : decode cX7_closeBracket 10 = .ok (.iconst 1, 1) := by decide +kernel
theorem dX7_closeBracket_11 : decode cX7_closeBracket 11 = .ok (.invokevirtual 62, 3) := by decide +kernel
theorem dX7_closeBracket_14 : decode cX7_closeBracket 14 = .ok (.aload_n 0, 1) := by decide +kernel
theorem dX7_closeBracket_15 : decode cX7_closeBracket 15 = .ok (.dup, 1) := by decide +kernel
theorem dX7_closeBracket_16 : decode cX7_closeBracket 16 = .ok (.getfield 29, 3) := by decide +kernel
theorem dX7_closeBracket_19 : decode cX7_closeBracket 19 = .ok (.iconst 1, 1) := by decide +kernel
theorem dX7_closeBracket_20 : decode cX7_closeBracket 20 = .ok (.isub, 1) := by decide +kernel
theorem dX7_closeBracket_21 : decode cX7_closeBracket 21 = .ok (.putfield 29, 3) := by decide +kernel
theorem dX7_closeBracket_24 : decode cX7_closeBracket 24 = .ok (.aload_n 0, 1) := by decide +kernel
theorem dX7_closeBracket_25 : decode cX7_closeBracket 25 = .ok (.dup, 1) := by decide +kernel
theorem dX7_closeBracket_26 : decode cX7_closeBracket 26 = .ok (.getfield 32, 3) := by decide +kernel
theorem dX7_closeBracket_29 : decode cX7_closeBracket 29 = .ok (.iconst 1, 1) := by decide +kernel
theorem dX7_closeBracket_30 : decode cX7_closeBracket 30 = .ok (.isub, 1) := by decide +kernel
theorem dX7_closeBracket_31 : decode cX7_closeBracket 31 = .ok (.putfield 32, 3) := by decide +kernel
theorem dX7_closeBracket_34 : decode cX7_closeBracket 34 = .ok (.iconst 1, 1) := by decide +kernel
theorem dX7_closeBracket_35 : decode cX7_closeBracket 35 = .ok (.ireturn, 1) := by decide +kernel
theorem dX7_release_0 : decode cX7_release 0 = .ok (.aload_n 0, 1) := by decide +kernel
theorem dX7_release_1 : decode cX7_release 1 = .ok (.getfield 29, 3) := by decide +kernel
theorem dX7_release_4 : decode cX7_release 4 = .ok (.ifCond .le 67, 3) := by decide +kernel
theorem dX7_release_7 : decode cX7_release 7 = .ok (.aload_n 0, 1) := by decide +kernel
theorem dX7_release_8 : decode cX7_release 8 = .ok (.getfield 15, 3) := by decide +kernel
theorem dX7_release_11 : decode cX7_release 11 = .ok (.aload_n 0, 1) := by decide +kernel
theorem dX7_release_12 : decode cX7_release 12 = .ok (.getfield 29, 3) := by decide +kernel
theorem dX7_release_15 : decode cX7_release 15 = .ok (.iconst 1, 1) := by decide +kernel
theorem dX7_release_16 : decode cX7_release 16 = .ok (.isub, 1) := by decide +kernel
theorem dX7_release_17 : decode cX7_release 17 = .ok (.iaload, 1) := by decide +kernel
theorem dX7_release_18 : decode cX7_release 18 = .ok (.bipush 40, 2) := by decide +kernel
theorem dX7_release_20 : decode cX7_release 20 = .ok (.if_icmp .eq 51, 3) := by decide +kernel
theorem dX7_release_23 : decode cX7_release 23 = .ok (.aload_n 0, 1) := by decide +kernel
theorem dX7_release_24 : decode cX7_release 24 = .ok (.getfield 15, 3) := by decide +kernel
theorem dX7_release_27 : decode cX7_release 27 = .ok (.aload_n 0, 1) := by decide +kernel
theorem dX7_release_28 : decode cX7_release 28 = .ok (.getfield 29, 3) := by decide +kernel
theorem dX7_release_31 : decode cX7_release 31 = .ok (.iconst 1, 1) := by decide +kernel
theorem dX7_release_32 : decode cX7_release 32 = .ok (.isub, 1) := by decide +kernel
theorem dX7_release_33 : decode cX7_release 33 = .ok (.iaload, 1) := by decide +kernel
theorem dX7_release_34 : decode cX7_release 34 = .ok (.invokestatic 89, 3) := by decide +kernel
theorem dX7_release_37 : decode cX7_release 37 = .ok (.iload_n 1, 1) := by decide +kernel
theorem dX7_release_38 : decode cX7_release 38 = .ok (.if_icmp .lt 33, 3) := by decide +kernel
theorem dX7_release_41 : decode cX7_release 41 = .ok (.aload_n 0, 1) := by decide +kernel
theorem dX7_release_42 : decode cX7_release 42 = .ok (.dup, 1) := by decide +kernel
theorem dX7_release_43 : decode cX7_release 43 = .ok (.getfield 29, 3) := by decide +kernel
theorem dX7_release_46 : decode cX7_release 46 = .ok (.iconst 1, 1) := by decide +kernel
theorem dX7_release_47 : decode cX7_release 47 = .ok (.isub, 1) := by decide +kernel
theorem dX7_release_48 : decode cX7_release 48 = .ok (.putfield 29, 3) := by decide +kernel
theorem dX7_release_51 : decode cX7_release 51 = .ok (.aload_n 0, 1) := by decide +kernel
theorem dX7_release_52 : decode cX7_release 52 = .ok (.sipush 1000, 3) := by decide +kernel
theorem dX7_release_55 : decode cX7_release 55 = .ok (.aload_n 0, 1) := by decide +kernel
theorem dX7_release_56 : decode cX7_release 56 = .ok (.getfield 15, 3) := by decide +kernel
theorem dX7_release_59 : decode cX7_release 59 = .ok (.aload_n 0, 1) := by decide +kernel
theorem dX7_release_60 : decode cX7_release 60 = .ok (.getfield 29, 3) := by decide +kernel
theorem dX7_release_63 : decode cX7_release 63 = .ok (.iaload, 1) := by decide +kernel
theorem dX7_release_64 : decode cX7_release 64 = .ok (.iadd, 1) := by decide +kernel
theorem dX7_release_65 : decode cX7_release 65 = .ok (.invokevirtual 40, 3) := by decide +kernel
theorem dX7_release_68 : decode cX7_release 68 = .ok (.goto (-68), 3) := by decide +kernel
theorem dX7_release_71 : decode cX7_release 71 = .ok (.return_, 1) := by decide +kernel
theorem dX7_hold_0 : decode cX7_hold 0 = .ok (.aload_n 0, 1) := by decide +kernel
theorem dX7_hold_1 : decode cX7_hold 1 = .ok (.getfield 29, 3) := by decide +kernel
theorem dX7_hold_4 : decode cX7_hold 4 = .ok (.bipush 40, 2) := by decide +kernel
theorem dX7_hold_6 : decode cX7_hold 6 = .ok (.if_icmp .ge 23, 3) := by decide +kernel
theorem dX7_hold_9 : decode cX7_hold 9 = .ok (.aload_n 0, 1) := by decide +kernel
theorem dX7_hold_10 : decode cX7_hold 10 = .ok (.getfield 15, 3) := by decide +kernel
theorem dX7_hold_13 : decode cX7_hold 13 = .ok (.aload_n 0, 1) := by decide +kernel
theorem dX7_hold_14 : decode cX7_hold 14 = .ok (.getfield 29, 3) := by decide +kernel
theorem dX7_hold_17 : decode cX7_hold 17 = .ok (.iload_n 1, 1) := by decide +kernel
theorem dX7_hold_18 : decode cX7_hold 18 = .ok (.iastore, 1) := by decide +kernel
theorem dX7_hold_19 : decode cX7_hold 19 = .ok (.aload_n 0, 1) := by decide +kernel
theorem dX7_hold_20 : decode cX7_hold 20 = .ok (.dup, 1) := by decide +kernel
theorem dX7_hold_21 : decode cX7_hold 21 = .ok (.getfield 29, 3) := by decide +kernel
theorem dX7_hold_24 : decode cX7_hold 24 = .ok (.iconst 1, 1) := by decide +kernel
theorem dX7_hold_25 : decode cX7_hold 25 = .ok (.iadd, 1) := by decide +kernel
theorem dX7_hold_26 : decode cX7_hold 26 = .ok (.putfield 29, 3) := by decide +kernel
theorem dX7_hold_29 : decode cX7_hold 29 = .ok (.return_, 1) := by decide +kernel
theorem dX7_addStep_0 : decode cX7_addStep 0 = .ok (.aload_n 0, 1) := by decide +kernel
theorem dX7_addStep_1 : decode cX7_addStep 1 = .ok (.getfield 25, 3) := by decide +kernel
theorem dX7_addStep_4 : decode cX7_addStep 4 = .ok (.bipush 40, 2) := by decide +kernel
theorem dX7_addStep_6 : decode cX7_addStep 6 = .ok (.if_icmp .ge 23, 3) := by decide +kernel
theorem dX7_addStep_9 : decode cX7_addStep 9 = .ok (.aload_n 0, 1) := by decide +kernel
theorem dX7_addStep_10 : decode cX7_addStep 10 = .ok (.getfield 9, 3) := by decide +kernel
theorem dX7_addStep_13 : decode cX7_addStep 13 = .ok (.aload_n 0, 1) := by decide +kernel
theorem dX7_addStep_14 : decode cX7_addStep 14 = .ok (.getfield 25, 3) := by decide +kernel
theorem dX7_addStep_17 : decode cX7_addStep 17 = .ok (.iload_n 1, 1) := by decide +kernel
theorem dX7_addStep_18 : decode cX7_addStep 18 = .ok (.iastore, 1) := by decide +kernel
theorem dX7_addStep_19 : decode cX7_addStep 19 = .ok (.aload_n 0, 1) := by decide +kernel
theorem dX7_addStep_20 : decode cX7_addStep 20 = .ok (.dup, 1) := by decide +kernel
theorem dX7_addStep_21 : decode cX7_addStep 21 = .ok (.getfield 25, 3) := by decide +kernel
theorem dX7_addStep_24 : decode cX7_addStep 24 = .ok (.iconst 1, 1) := by decide +kernel
theorem dX7_addStep_25 : decode cX7_addStep 25 = .ok (.iadd, 1) := by decide +kernel
theorem dX7_addStep_26 : decode cX7_addStep 26 = .ok (.putfield 25, 3) := by decide +kernel
theorem dX7_addStep_29 : decode cX7_addStep 29 = .ok (.return_, 1) := by decide +kernel
theorem dX7_isLetter_0 : decode cX7_isLetter 0 = .ok (.iload_n 0, 1) := by decide +kernel
theorem dX7_isLetter_1 : decode cX7_isLetter 1 = .ok (.tableswitch 77 101 115 #[75, 75, 77, 77, 77, 77, 77, 75, 75, 75, 77, 75, 77, 77, 75], 75) := by decide +kernel
theorem dX7_isLetter_76 : decode cX7_isLetter 76 = .ok (.iconst 1, 1) := by decide +kernel
theorem dX7_isLetter_77 : decode cX7_isLetter 77 = .ok (.ireturn, 1) := by decide +kernel
theorem dX7_isLetter_78 : decode cX7_isLetter 78 = .ok (.iconst 0, 1) := by decide +kernel
theorem dX7_isLetter_79 : decode cX7_isLetter 79 = .ok (.ireturn, 1) := by decide +kernel
theorem dX7_bindingOf_0 : decode cX7_bindingOf 0 = .ok (.iload_n 0, 1) := by decide +kernel
theorem dX7_bindingOf_1 : decode cX7_bindingOf 1 = .ok (.lookupswitch 83 #[(42, 79), (43, 77), (45, 77), (47, 79), (60, 75), (61, 75), (62, 75), (256, 81)], 75) := by decide +kernel
theorem dX7_bindingOf_76 : decode cX7_bindingOf 76 = .ok (.iconst 1, 1) := by decide +kernel
theorem dX7_bindingOf_77 : decode cX7_bindingOf 77 = .ok (.ireturn, 1) := by decide +kernel
theorem dX7_bindingOf_78 : decode cX7_bindingOf 78 = .ok (.iconst 2, 1) := by decide +kernel
theorem dX7_bindingOf_79 : decode cX7_bindingOf 79 = .ok (.ireturn, 1) := by decide +kernel
theorem dX7_bindingOf_80 : decode cX7_bindingOf 80 = .ok (.iconst 3, 1) := by decide +kernel
theorem dX7_bindingOf_81 : decode cX7_bindingOf 81 = .ok (.ireturn, 1) := by decide +kernel
theorem dX7_bindingOf_82 : decode cX7_bindingOf 82 = .ok (.iconst 4, 1) := by decide +kernel
theorem dX7_bindingOf_83 : decode cX7_bindingOf 83 = .ok (.ireturn, 1) := by decide +kernel
theorem dX7_bindingOf_84 : decode cX7_bindingOf 84 = .ok (.iconst 0, 1) := by decide +kernel
theorem dX7_bindingOf_85 : decode cX7_bindingOf 85 = .ok (.ireturn, 1) := by decide +kernel
theorem dX7_costOf_0 : decode cX7_costOf 0 = .ok (.iload_n 2, 1) := by decide +kernel
theorem dX7_costOf_1 : decode cX7_costOf 1 = .ok (.aload_n 1, 1) := by decide +kernel
theorem dX7_costOf_2 : decode cX7_costOf 2 = .ok (.arraylength, 1) := by decide +kernel
theorem dX7_costOf_3 : decode cX7_costOf 3 = .ok (.invokestatic 44, 3) := by decide +kernel
theorem dX7_costOf_6 : decode cX7_costOf 6 = .ok (.istore_n 3, 1) := by decide +kernel
theorem dX7_costOf_7 : decode cX7_costOf 7 = .ok (.aload_n 0, 1) := by decide +kernel
theorem dX7_costOf_8 : decode cX7_costOf 8 = .ok (.iconst 0, 1) := by decide +kernel
theorem dX7_costOf_9 : decode cX7_costOf 9 = .ok (.putfield 92, 3) := by decide +kernel
theorem dX7_costOf_12 : decode cX7_costOf 12 = .ok (.iconst 0, 1) := by decide +kernel
theorem dX7_costOf_13 : decode cX7_costOf 13 = .ok (.istore 4, 2) := by decide +kernel
theorem dX7_costOf_15 : decode cX7_costOf 15 = .ok (.iload 4, 2) := by decide +kernel
theorem dX7_costOf_17 : decode cX7_costOf 17 = .ok (.aload_n 0, 1) := by decide +kernel
theorem dX7_costOf_18 : decode cX7_costOf 18 = .ok (.getfield 25, 3) := by decide +kernel
theorem dX7_costOf_21 : decode cX7_costOf 21 = .ok (.if_icmp .ge 110, 3) := by decide +kernel
theorem dX7_costOf_24 : decode cX7_costOf 24 = .ok (.aload_n 0, 1) := by decide +kernel
theorem dX7_costOf_25 : decode cX7_costOf 25 = .ok (.getfield 9, 3) := by decide +kernel
theorem dX7_costOf_28 : decode cX7_costOf 28 = .ok (.iload 4, 2) := by decide +kernel
theorem dX7_costOf_30 : decode cX7_costOf 30 = .ok (.iaload, 1) := by decide +kernel
theorem dX7_costOf_31 : decode cX7_costOf 31 = .ok (.istore 5, 2) := by decide +kernel
theorem dX7_costOf_33 : decode cX7_costOf 33 = .ok (.iload 5, 2) := by decide +kernel
theorem dX7_costOf_35 : decode cX7_costOf 35 = .ok (.sipush 1000, 3) := by decide +kernel
theorem dX7_costOf_38 : decode cX7_costOf 38 = .ok (.isub, 1) := by decide +kernel
theorem dX7_costOf_39 : decode cX7_costOf 39 = .ok (.istore 6, 2) := by decide +kernel
theorem dX7_costOf_41 : decode cX7_costOf 41 = .ok (.iload 5, 2) := by decide +kernel
theorem dX7_costOf_43 : decode cX7_costOf 43 = .ok (.sipush 1000, 3) := by decide +kernel
theorem dX7_costOf_46 : decode cX7_costOf 46 = .ok (.if_icmp .ge 12, 3) := by decide +kernel
theorem dX7_costOf_49 : decode cX7_costOf 49 = .ok (.aload_n 0, 1) := by decide +kernel
theorem dX7_costOf_50 : decode cX7_costOf 50 = .ok (.iload 5, 2) := by decide +kernel
theorem dX7_costOf_52 : decode cX7_costOf 52 = .ok (.invokevirtual 95, 3) := by decide +kernel
theorem dX7_costOf_55 : decode cX7_costOf 55 = .ok (.goto 70, 3) := by decide +kernel
theorem dX7_costOf_58 : decode cX7_costOf 58 = .ok (.iload 6, 2) := by decide +kernel
theorem dX7_costOf_60 : decode cX7_costOf 60 = .ok (.invokestatic 79, 3) := by decide +kernel
theorem dX7_costOf_63 : decode cX7_costOf 63 = .ok (.ifCond .eq 17, 3) := by decide +kernel
theorem dX7_costOf_66 : decode cX7_costOf 66 = .ok (.aload_n 0, 1) := by decide +kernel
theorem dX7_costOf_67 : decode cX7_costOf 67 = .ok (.iload 6, 2) := by decide +kernel
theorem dX7_costOf_69 : decode cX7_costOf 69 = .ok (.aload_n 1, 1) := by decide +kernel
theorem dX7_costOf_70 : decode cX7_costOf 70 = .ok (.iload_n 3, 1) := by decide +kernel
theorem dX7_costOf_71 : decode cX7_costOf 71 = .ok (.invokestatic 98, 3) := by decide +kernel
theorem dX7_costOf_74 : decode cX7_costOf 74 = .ok (.invokevirtual 95, 3) := by decide +kernel
theorem dX7_costOf_77 : decode cX7_costOf 77 = .ok (.goto 48, 3) := by decide +kernel
theorem dX7_costOf_80 : decode cX7_costOf 80 = .ok (.iload 6, 2) := by decide +kernel
theorem dX7_costOf_82 : decode cX7_costOf 82 = .ok (.sipush 256, 3) := by decide +kernel
theorem dX7_costOf_85 : decode cX7_costOf 85 = .ok (.if_icmp .ne 15, 3) := by decide +kernel
theorem dX7_costOf_88 : decode cX7_costOf 88 = .ok (.aload_n 0, 1) := by decide +kernel
theorem dX7_costOf_89 : decode cX7_costOf 89 = .ok (.aload_n 0, 1) := by decide +kernel
theorem dX7_costOf_90 : decode cX7_costOf 90 = .ok (.invokevirtual 102, 3) := by decide +kernel
theorem dX7_costOf_93 : decode cX7_costOf 93 = .ok (.ineg, 1) := by decide +kernel
theorem dX7_costOf_94 : decode cX7_costOf 94 = .ok (.invokevirtual 95, 3) := by decide +kernel
theorem dX7_costOf_97 : decode cX7_costOf 97 = .ok (.goto 28, 3) := by decide +kernel
theorem dX7_costOf_100 : decode cX7_costOf 100 = .ok (.aload_n 0, 1) := by decide +kernel
theorem dX7_costOf_101 : decode cX7_costOf 101 = .ok (.invokevirtual 102, 3) := by decide +kernel
theorem dX7_costOf_104 : decode cX7_costOf 104 = .ok (.istore 7, 2) := by decide +kernel
theorem dX7_costOf_106 : decode cX7_costOf 106 = .ok (.aload_n 0, 1) := by decide +kernel
theorem dX7_costOf_107 : decode cX7_costOf 107 = .ok (.invokevirtual 102, 3) := by decide +kernel
theorem dX7_costOf_110 : decode cX7_costOf 110 = .ok (.istore 8, 2) := by decide +kernel
theorem dX7_costOf_112 : decode cX7_costOf 112 = .ok (.aload_n 0, 1) := by decide +kernel
theorem dX7_costOf_113 : decode cX7_costOf 113 = .ok (.iload 6, 2) := by decide +kernel
theorem dX7_costOf_115 : decode cX7_costOf 115 = .ok (.iload 8, 2) := by decide +kernel
theorem dX7_costOf_117 : decode cX7_costOf 117 = .ok (.iload 7, 2) := by decide +kernel
theorem dX7_costOf_119 : decode cX7_costOf 119 = .ok (.invokestatic 105, 3) := by decide +kernel
theorem dX7_costOf_122 : decode cX7_costOf 122 = .ok (.invokevirtual 95, 3) := by decide +kernel
theorem dX7_costOf_125 : decode cX7_costOf 125 = .ok (.iinc 4 1, 3) := by decide +kernel
theorem dX7_costOf_128 : decode cX7_costOf 128 = .ok (.goto (-113), 3) := by decide +kernel
theorem dX7_costOf_131 : decode cX7_costOf 131 = .ok (.aload_n 0, 1) := by decide +kernel
theorem dX7_costOf_132 : decode cX7_costOf 132 = .ok (.invokevirtual 102, 3) := by decide +kernel
theorem dX7_costOf_135 : decode cX7_costOf 135 = .ok (.ireturn, 1) := by decide +kernel
theorem dX7_push_0 : decode cX7_push 0 = .ok (.aload_n 0, 1) := by decide +kernel
theorem dX7_push_1 : decode cX7_push 1 = .ok (.getfield 92, 3) := by decide +kernel
theorem dX7_push_4 : decode cX7_push 4 = .ok (.bipush 40, 2) := by decide +kernel
theorem dX7_push_6 : decode cX7_push 6 = .ok (.if_icmp .ge 23, 3) := by decide +kernel
theorem dX7_push_9 : decode cX7_push 9 = .ok (.aload_n 0, 1) := by decide +kernel
theorem dX7_push_10 : decode cX7_push 10 = .ok (.getfield 22, 3) := by decide +kernel
theorem dX7_push_13 : decode cX7_push 13 = .ok (.aload_n 0, 1) := by decide +kernel
theorem dX7_push_14 : decode cX7_push 14 = .ok (.getfield 92, 3) := by decide +kernel
theorem dX7_push_17 : decode cX7_push 17 = .ok (.iload_n 1, 1) := by decide +kernel
theorem dX7_push_18 : decode cX7_push 18 = .ok (.iastore, 1) := by decide +kernel
theorem dX7_push_19 : decode cX7_push 19 = .ok (.aload_n 0, 1) := by decide +kernel
theorem dX7_push_20 : decode cX7_push 20 = .ok (.dup, 1) := by decide +kernel
theorem dX7_push_21 : decode cX7_push 21 = .ok (.getfield 92, 3) := by decide +kernel
theorem dX7_push_24 : decode cX7_push 24 = .ok (.iconst 1, 1) := by decide +kernel
theorem dX7_push_25 : decode cX7_push 25 = .ok (.iadd, 1) := by decide +kernel
theorem dX7_push_26 : decode cX7_push 26 = .ok (.putfield 92, 3) := by decide +kernel
theorem dX7_push_29 : decode cX7_push 29 = .ok (.return_, 1) := by decide +kernel
theorem dX7_pop_0 : decode cX7_pop 0 = .ok (.aload_n 0, 1) := by decide +kernel
theorem dX7_pop_1 : decode cX7_pop 1 = .ok (.getfield 92, 3) := by decide +kernel
theorem dX7_pop_4 : decode cX7_pop 4 = .ok (.ifCond .ne 5, 3) := by decide +kernel
theorem dX7_pop_7 : decode cX7_pop 7 = .ok (.iconst 0, 1) := by decide +kernel
theorem dX7_pop_8 : decode cX7_pop 8 = .ok (.ireturn, 1) := by decide +kernel
theorem dX7_pop_9 : decode cX7_pop 9 = .ok (.aload_n 0, 1) := by decide +kernel
theorem dX7_pop_10 : decode cX7_pop 10 = .ok (.dup, 1) := by decide +kernel
theorem dX7_pop_11 : decode cX7_pop 11 = .ok (.getfield 92, 3) := by decide +kernel
theorem dX7_pop_14 : decode cX7_pop 14 = .ok (.iconst 1, 1) := by decide +kernel
theorem dX7_pop_15 : decode cX7_pop 15 = .ok (.isub, 1) := by decide +kernel
theorem dX7_pop_16 : decode cX7_pop 16 = .ok (.putfield 92, 3) := by decide +kernel
theorem dX7_pop_19 : decode cX7_pop 19 = .ok (.aload_n 0, 1) := by decide +kernel
theorem dX7_pop_20 : decode cX7_pop 20 = .ok (.getfield 22, 3) := by decide +kernel
theorem dX7_pop_23 : decode cX7_pop 23 = .ok (.aload_n 0, 1) := by decide +kernel
theorem dX7_pop_24 : decode cX7_pop 24 = .ok (.getfield 92, 3) := by decide +kernel
theorem dX7_pop_27 : decode cX7_pop 27 = .ok (.iaload, 1) := by decide +kernel
theorem dX7_pop_28 : decode cX7_pop 28 = .ok (.ireturn, 1) := by decide +kernel
theorem dX7_joined_0 : decode cX7_joined 0 = .ok (.iload_n 0, 1) := by decide +kernel
theorem dX7_joined_1 : decode cX7_joined 1 = .ok (.lookupswitch 104 #[(42, 100), (43, 92), (45, 96), (60, 59), (61, 81), (62, 70)], 59) := by decide +kernel
theorem dX7_joined_60 : decode cX7_joined 60 = .ok (.iload_n 1, 1) := by decide +kernel
theorem dX7_joined_61 : decode cX7_joined 61 = .ok (.iload_n 2, 1) := by decide +kernel
theorem dX7_joined_62 : decode cX7_joined 62 = .ok (.if_icmp .ge 7, 3) := by decide +kernel
theorem dX7_joined_65 : decode cX7_joined 65 = .ok (.iconst 1, 1) := by decide +kernel
theorem dX7_joined_66 : decode cX7_joined 66 = .ok (.goto 4, 3) := by decide +kernel
theorem dX7_joined_69 : decode cX7_joined 69 = .ok (.iconst 0, 1) := by decide +kernel
theorem dX7_joined_70 : decode cX7_joined 70 = .ok (.ireturn, 1) := by decide +kernel
theorem dX7_joined_71 : decode cX7_joined 71 = .ok (.iload_n 1, 1) := by decide +kernel
theorem dX7_joined_72 : decode cX7_joined 72 = .ok (.iload_n 2, 1) := by decide +kernel
theorem dX7_joined_73 : decode cX7_joined 73 = .ok (.if_icmp .le 7, 3) := by decide +kernel
theorem dX7_joined_76 : decode cX7_joined 76 = .ok (.iconst 1, 1) := by decide +kernel
theorem dX7_joined_77 : decode cX7_joined 77 = .ok (.goto 4, 3) := by decide +kernel
theorem dX7_joined_80 : decode cX7_joined 80 = .ok (.iconst 0, 1) := by decide +kernel
theorem dX7_joined_81 : decode cX7_joined 81 = .ok (.ireturn, 1) := by decide +kernel
theorem dX7_joined_82 : decode cX7_joined 82 = .ok (.iload_n 1, 1) := by decide +kernel
theorem dX7_joined_83 : decode cX7_joined 83 = .ok (.iload_n 2, 1) := by decide +kernel
theorem dX7_joined_84 : decode cX7_joined 84 = .ok (.if_icmp .ne 7, 3) := by decide +kernel
theorem dX7_joined_87 : decode cX7_joined 87 = .ok (.iconst 1, 1) := by decide +kernel
theorem dX7_joined_88 : decode cX7_joined 88 = .ok (.goto 4, 3) := by decide +kernel
theorem dX7_joined_91 : decode cX7_joined 91 = .ok (.iconst 0, 1) := by decide +kernel
theorem dX7_joined_92 : decode cX7_joined 92 = .ok (.ireturn, 1) := by decide +kernel
theorem dX7_joined_93 : decode cX7_joined 93 = .ok (.iload_n 1, 1) := by decide +kernel
theorem dX7_joined_94 : decode cX7_joined 94 = .ok (.iload_n 2, 1) := by decide +kernel
theorem dX7_joined_95 : decode cX7_joined 95 = .ok (.iadd, 1) := by decide +kernel
theorem dX7_joined_96 : decode cX7_joined 96 = .ok (.ireturn, 1) := by decide +kernel
theorem dX7_joined_97 : decode cX7_joined 97 = .ok (.iload_n 1, 1) := by decide +kernel
theorem dX7_joined_98 : decode cX7_joined 98 = .ok (.iload_n 2, 1) := by decide +kernel
theorem dX7_joined_99 : decode cX7_joined 99 = .ok (.isub, 1) := by decide +kernel
theorem dX7_joined_100 : decode cX7_joined 100 = .ok (.ireturn, 1) := by decide +kernel
theorem dX7_joined_101 : decode cX7_joined 101 = .ok (.iload_n 1, 1) := by decide +kernel
theorem dX7_joined_102 : decode cX7_joined 102 = .ok (.iload_n 2, 1) := by decide +kernel
theorem dX7_joined_103 : decode cX7_joined 103 = .ok (.imul, 1) := by decide +kernel
theorem dX7_joined_104 : decode cX7_joined 104 = .ok (.ireturn, 1) := by decide +kernel
theorem dX7_joined_105 : decode cX7_joined 105 = .ok (.iload_n 2, 1) := by decide +kernel
theorem dX7_joined_106 : decode cX7_joined 106 = .ok (.ifCond .ne 7, 3) := by decide +kernel
theorem dX7_joined_109 : decode cX7_joined 109 = .ok (.iconst 0, 1) := by decide +kernel
theorem dX7_joined_110 : decode cX7_joined 110 = .ok (.goto 6, 3) := by decide +kernel
theorem dX7_joined_113 : decode cX7_joined 113 = .ok (.iload_n 1, 1) := by decide +kernel
theorem dX7_joined_114 : decode cX7_joined 114 = .ok (.iload_n 2, 1) := by decide +kernel
theorem dX7_joined_115 : decode cX7_joined 115 = .ok (.idiv, 1) := by decide +kernel
theorem dX7_joined_116 : decode cX7_joined 116 = .ok (.ireturn, 1) := by decide +kernel
theorem dX7_valueOf_0 : decode cX7_valueOf 0 = .ok (.iload_n 0, 1) := by decide +kernel
theorem dX7_valueOf_1 : decode cX7_valueOf 1 = .ok (.bipush 110, 2) := by decide +kernel
theorem dX7_valueOf_3 : decode cX7_valueOf 3 = .ok (.if_icmp .ne 5, 3) := by decide +kernel
theorem dX7_valueOf_6 : decode cX7_valueOf 6 = .ok (.iload_n 2, 1) := by decide +kernel
theorem dX7_valueOf_7 : decode cX7_valueOf 7 = .ok (.ireturn, 1) := by decide +kernel
theorem dX7_valueOf_8 : decode cX7_valueOf 8 = .ok (.iload_n 2, 1) := by decide +kernel
theorem dX7_valueOf_9 : decode cX7_valueOf 9 = .ok (.ifCond .ne 15, 3) := by decide +kernel
theorem dX7_valueOf_12 : decode cX7_valueOf 12 = .ok (.iload_n 0, 1) := by decide +kernel
theorem dX7_valueOf_13 : decode cX7_valueOf 13 = .ok (.bipush 112, 2) := by decide +kernel
theorem dX7_valueOf_15 : decode cX7_valueOf 15 = .ok (.if_icmp .ne 7, 3) := by decide +kernel
theorem dX7_valueOf_18 : decode cX7_valueOf 18 = .ok (.iconst 1, 1) := by decide +kernel
theorem dX7_valueOf_19 : decode cX7_valueOf 19 = .ok (.goto 4, 3) := by decide +kernel
theorem dX7_valueOf_22 : decode cX7_valueOf 22 = .ok (.iconst 0, 1) := by decide +kernel
theorem dX7_valueOf_23 : decode cX7_valueOf 23 = .ok (.ireturn, 1) := by decide +kernel
theorem dX7_valueOf_24 : decode cX7_valueOf 24 = .ok (.iload_n 0, 1) := by decide +kernel
theorem dX7_valueOf_25 : decode cX7_valueOf 25 = .ok (.bipush 101, 2) := by decide +kernel
theorem dX7_valueOf_27 : decode cX7_valueOf 27 = .ok (.if_icmp .ne 9, 3) := by decide +kernel
theorem dX7_valueOf_30 : decode cX7_valueOf 30 = .ok (.aload_n 1, 1) := by decide +kernel
theorem dX7_valueOf_31 : decode cX7_valueOf 31 = .ok (.iload_n 2, 1) := by decide +kernel
theorem dX7_valueOf_32 : decode cX7_valueOf 32 = .ok (.iconst 1, 1) := by decide +kernel
theorem dX7_valueOf_33 : decode cX7_valueOf 33 = .ok (.isub, 1) := by decide +kernel
theorem dX7_valueOf_34 : decode cX7_valueOf 34 = .ok (.iaload, 1) := by decide +kernel
theorem dX7_valueOf_35 : decode cX7_valueOf 35 = .ok (.ireturn, 1) := by decide +kernel
theorem dX7_valueOf_36 : decode cX7_valueOf 36 = .ok (.aload_n 1, 1) := by decide +kernel
theorem dX7_valueOf_37 : decode cX7_valueOf 37 = .ok (.iconst 0, 1) := by decide +kernel
theorem dX7_valueOf_38 : decode cX7_valueOf 38 = .ok (.iaload, 1) := by decide +kernel
theorem dX7_valueOf_39 : decode cX7_valueOf 39 = .ok (.istore_n 3, 1) := by decide +kernel
theorem dX7_valueOf_40 : decode cX7_valueOf 40 = .ok (.iconst 1, 1) := by decide +kernel
theorem dX7_valueOf_41 : decode cX7_valueOf 41 = .ok (.istore 4, 2) := by decide +kernel
theorem dX7_valueOf_43 : decode cX7_valueOf 43 = .ok (.iload 4, 2) := by decide +kernel
theorem dX7_valueOf_45 : decode cX7_valueOf 45 = .ok (.iload_n 2, 1) := by decide +kernel
theorem dX7_valueOf_46 : decode cX7_valueOf 46 = .ok (.if_icmp .ge 19, 3) := by decide +kernel
theorem dX7_valueOf_49 : decode cX7_valueOf 49 = .ok (.iload_n 0, 1) := by decide +kernel
theorem dX7_valueOf_50 : decode cX7_valueOf 50 = .ok (.iload_n 3, 1) := by decide +kernel
theorem dX7_valueOf_51 : decode cX7_valueOf 51 = .ok (.aload_n 1, 1) := by decide +kernel
theorem dX7_valueOf_52 : decode cX7_valueOf 52 = .ok (.iload 4, 2) := by decide +kernel
theorem dX7_valueOf_54 : decode cX7_valueOf 54 = .ok (.iaload, 1) := by decide +kernel
theorem dX7_valueOf_55 : decode cX7_valueOf 55 = .ok (.invokestatic 109, 3) := by decide +kernel
theorem dX7_valueOf_58 : decode cX7_valueOf 58 = .ok (.istore_n 3, 1) := by decide +kernel
theorem dX7_valueOf_59 : decode cX7_valueOf 59 = .ok (.iinc 4 1, 3) := by decide +kernel
theorem dX7_valueOf_62 : decode cX7_valueOf 62 = .ok (.goto (-19), 3) := by decide +kernel
theorem dX7_valueOf_65 : decode cX7_valueOf 65 = .ok (.iload_n 3, 1) := by decide +kernel
theorem dX7_valueOf_66 : decode cX7_valueOf 66 = .ok (.ireturn, 1) := by decide +kernel
theorem dX7_gathered_0 : decode cX7_gathered 0 = .ok (.iload_n 0, 1) := by decide +kernel
theorem dX7_gathered_1 : decode cX7_gathered 1 = .ok (.tableswitch 77 108 115 #[66, 55, 77, 77, 51, 77, 77, 47], 47) := by decide +kernel
theorem dX7_gathered_48 : decode cX7_gathered 48 = .ok (.iload_n 1, 1) := by decide +kernel
theorem dX7_gathered_49 : decode cX7_gathered 49 = .ok (.iload_n 2, 1) := by decide +kernel
theorem dX7_gathered_50 : decode cX7_gathered 50 = .ok (.iadd, 1) := by decide +kernel
theorem dX7_gathered_51 : decode cX7_gathered 51 = .ok (.ireturn, 1) := by decide +kernel
theorem dX7_gathered_52 : decode cX7_gathered 52 = .ok (.iload_n 1, 1) := by decide +kernel
theorem dX7_gathered_53 : decode cX7_gathered 53 = .ok (.iload_n 2, 1) := by decide +kernel
theorem dX7_gathered_54 : decode cX7_gathered 54 = .ok (.imul, 1) := by decide +kernel
theorem dX7_gathered_55 : decode cX7_gathered 55 = .ok (.ireturn, 1) := by decide +kernel
theorem dX7_gathered_56 : decode cX7_gathered 56 = .ok (.iload_n 1, 1) := by decide +kernel
theorem dX7_gathered_57 : decode cX7_gathered 57 = .ok (.iload_n 2, 1) := by decide +kernel
theorem dX7_gathered_58 : decode cX7_gathered 58 = .ok (.if_icmp .lt 7, 3) := by decide +kernel
theorem dX7_gathered_61 : decode cX7_gathered 61 = .ok (.iload_n 1, 1) := by decide +kernel
theorem dX7_gathered_62 : decode cX7_gathered 62 = .ok (.goto 4, 3) := by decide +kernel
theorem dX7_gathered_65 : decode cX7_gathered 65 = .ok (.iload_n 2, 1) := by decide +kernel
theorem dX7_gathered_66 : decode cX7_gathered 66 = .ok (.ireturn, 1) := by decide +kernel
theorem dX7_gathered_67 : decode cX7_gathered 67 = .ok (.iload_n 1, 1) := by decide +kernel
theorem dX7_gathered_68 : decode cX7_gathered 68 = .ok (.iload_n 2, 1) := by decide +kernel
theorem dX7_gathered_69 : decode cX7_gathered 69 = .ok (.if_icmp .gt 7, 3) := by decide +kernel
theorem dX7_gathered_72 : decode cX7_gathered 72 = .ok (.iload_n 1, 1) := by decide +kernel
theorem dX7_gathered_73 : decode cX7_gathered 73 = .ok (.goto 4, 3) := by decide +kernel
theorem dX7_gathered_76 : decode cX7_gathered 76 = .ok (.iload_n 2, 1) := by decide +kernel
theorem dX7_gathered_77 : decode cX7_gathered 77 = .ok (.ireturn, 1) := by decide +kernel
theorem dX7_gathered_78 : decode cX7_gathered 78 = .ok (.iload_n 1, 1) := by decide +kernel
theorem dX7_gathered_79 : decode cX7_gathered 79 = .ok (.ireturn, 1) := by decide +kernel
