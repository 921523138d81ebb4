theorem dX12_forget_2 : decode cX12_forget 2 = .ok (.putfield 94, 3) := by decide +kernel
theorem dX12_forget_5 : decode cX12_forget 5 = .ok (.aload_n 0, 1) := by decide +kernel
theorem dX12_forget_6 : decode cX12_forget 6 = .ok (.getfield 348, 3) := by decide +kernel
theorem dX12_forget_9 : decode cX12_forget 9 = .ok (.istore_n 1, 1) := by decide +kernel
theorem dX12_forget_10 : decode cX12_forget 10 = .ok (.aload_n 0, 1) := by decide +kernel
theorem dX12_forget_11 : decode cX12_forget 11 = .ok (.iconst 0, 1) := by decide +kernel
theorem dX12_forget_12 : decode cX12_forget 12 = .ok (.putfield 348, 3) := by decide +kernel
theorem dX12_forget_15 : decode cX12_forget 15 = .ok (.iload_n 1, 1) := by decide +kernel
theorem dX12_forget_16 : decode cX12_forget 16 = .ok (.ireturn, 1) := by decide +kernel
theorem dX12_isSo_0 : decode cX12_isSo 0 = .ok (.aload_n 0, 1) := by decide +kernel
theorem dX12_isSo_1 : decode cX12_isSo 1 = .ok (.getfield 48, 3) := by decide +kernel
theorem dX12_isSo_4 : decode cX12_isSo 4 = .ok (.iload_n 1, 1) := by decide +kernel
theorem dX12_isSo_5 : decode cX12_isSo 5 = .ok (.iaload, 1) := by decide +kernel
theorem dX12_isSo_6 : decode cX12_isSo 6 = .ok (.istore 4, 2) := by decide +kernel
theorem dX12_isSo_8 : decode cX12_isSo 8 = .ok (.iload_n 2, 1) := by decide +kernel
theorem dX12_isSo_9 : decode cX12_isSo 9 = .ok (.tableswitch 115 0 3 #[31, 50, 74, 103], 31) := by decide +kernel
theorem dX12_isSo_40 : decode cX12_isSo 40 = .ok (.aload_n 0, 1) := by decide +kernel
theorem dX12_isSo_41 : decode cX12_isSo 41 = .ok (.getfield 51, 3) := by decide +kernel
theorem dX12_isSo_44 : decode cX12_isSo 44 = .ok (.iload_n 1, 1) := by decide +kernel
theorem dX12_isSo_45 : decode cX12_isSo 45 = .ok (.iaload, 1) := by decide +kernel
theorem dX12_isSo_46 : decode cX12_isSo 46 = .ok (.bipush 10, 2) := by decide +kernel
theorem dX12_isSo_48 : decode cX12_isSo 48 = .ok (.iload_n 3, 1) := by decide +kernel
theorem dX12_isSo_49 : decode cX12_isSo 49 = .ok (.imul, 1) := by decide +kernel
theorem dX12_isSo_50 : decode cX12_isSo 50 = .ok (.if_icmp .lt 7, 3) := by decide +kernel
theorem dX12_isSo_53 : decode cX12_isSo 53 = .ok (.iconst 1, 1) := by decide +kernel
theorem dX12_isSo_54 : decode cX12_isSo 54 = .ok (.goto 4, 3) := by decide +kernel
theorem dX12_isSo_57 : decode cX12_isSo 57 = .ok (.iconst 0, 1) := by decide +kernel
theorem dX12_isSo_58 : decode cX12_isSo 58 = .ok (.ireturn, 1) := by decide +kernel
theorem dX12_isSo_59 : decode cX12_isSo 59 = .ok (.iload 4, 2) := by decide +kernel
theorem dX12_isSo_61 : decode cX12_isSo 61 = .ok (.ifCond .le 20, 3) := by decide +kernel
theorem dX12_isSo_64 : decode cX12_isSo 64 = .ok (.aload_n 0, 1) := by decide +kernel
theorem dX12_isSo_65 : decode cX12_isSo 65 = .ok (.getfield 45, 3) := by decide +kernel
theorem dX12_isSo_68 : decode cX12_isSo 68 = .ok (.bipush 8, 2) := by decide +kernel
theorem dX12_isSo_70 : decode cX12_isSo 70 = .ok (.iload_n 1, 1) := by decide +kernel
theorem dX12_isSo_71 : decode cX12_isSo 71 = .ok (.imul, 1) := by decide +kernel
theorem dX12_isSo_72 : decode cX12_isSo 72 = .ok (.iaload, 1) := by decide +kernel
theorem dX12_isSo_73 : decode cX12_isSo 73 = .ok (.iload_n 3, 1) := by decide +kernel
theorem dX12_isSo_74 : decode cX12_isSo 74 = .ok (.if_icmp .ne 7, 3) := by decide +kernel
theorem dX12_isSo_77 : decode cX12_isSo 77 = .ok (.iconst 1, 1) := by decide +kernel
theorem dX12_isSo_78 : decode cX12_isSo 78 = .ok (.goto 4, 3) := by decide +kernel
theorem dX12_isSo_81 : decode cX12_isSo 81 = .ok (.iconst 0, 1) := by decide +kernel
theorem dX12_isSo_82 : decode cX12_isSo 82 = .ok (.ireturn, 1) := by decide +kernel
theorem dX12_isSo_83 : decode cX12_isSo 83 = .ok (.iload 4, 2) := by decide +kernel
theorem dX12_isSo_85 : decode cX12_isSo 85 = .ok (.ifCond .le 25, 3) := by decide +kernel
theorem dX12_isSo_88 : decode cX12_isSo 88 = .ok (.aload_n 0, 1) := by decide +kernel
theorem dX12_isSo_89 : decode cX12_isSo 89 = .ok (.getfield 45, 3) := by decide +kernel
theorem dX12_isSo_92 : decode cX12_isSo 92 = .ok (.bipush 8, 2) := by decide +kernel
theorem dX12_isSo_94 : decode cX12_isSo 94 = .ok (.iload_n 1, 1) := by decide +kernel
theorem dX12_isSo_95 : decode cX12_isSo 95 = .ok (.imul, 1) := by decide +kernel
theorem dX12_isSo_96 : decode cX12_isSo 96 = .ok (.iload 4, 2) := by decide +kernel
theorem dX12_isSo_98 : decode cX12_isSo 98 = .ok (.iadd, 1) := by decide +kernel
theorem dX12_isSo_99 : decode cX12_isSo 99 = .ok (.iconst 1, 1) := by decide +kernel
theorem dX12_isSo_100 : decode cX12_isSo 100 = .ok (.isub, 1) := by decide +kernel
theorem dX12_isSo_101 : decode cX12_isSo 101 = .ok (.iaload, 1) := by decide +kernel
theorem dX12_isSo_102 : decode cX12_isSo 102 = .ok (.iload_n 3, 1) := by decide +kernel
theorem dX12_isSo_103 : decode cX12_isSo 103 = .ok (.if_icmp .ne 7, 3) := by decide +kernel
theorem dX12_isSo_106 : decode cX12_isSo 106 = .ok (.iconst 1, 1) := by decide +kernel
theorem dX12_isSo_107 : decode cX12_isSo 107 = .ok (.goto 4, 3) := by decide +kernel
theorem dX12_isSo_110 : decode cX12_isSo 110 = .ok (.iconst 0, 1) := by decide +kernel
theorem dX12_isSo_111 : decode cX12_isSo 111 = .ok (.ireturn, 1) := by decide +kernel
theorem dX12_isSo_112 : decode cX12_isSo 112 = .ok (.iload 4, 2) := by decide +kernel
theorem dX12_isSo_114 : decode cX12_isSo 114 = .ok (.iload_n 3, 1) := by decide +kernel
theorem dX12_isSo_115 : decode cX12_isSo 115 = .ok (.if_icmp .ne 7, 3) := by decide +kernel
theorem dX12_isSo_118 : decode cX12_isSo 118 = .ok (.iconst 1, 1) := by decide +kernel
theorem dX12_isSo_119 : decode cX12_isSo 119 = .ok (.goto 4, 3) := by decide +kernel
theorem dX12_isSo_122 : decode cX12_isSo 122 = .ok (.iconst 0, 1) := by decide +kernel
theorem dX12_isSo_123 : decode cX12_isSo 123 = .ok (.ireturn, 1) := by decide +kernel
theorem dX12_isSo_124 : decode cX12_isSo 124 = .ok (.iconst 0, 1) := by decide +kernel
theorem dX12_isSo_125 : decode cX12_isSo 125 = .ok (.istore 5, 2) := by decide +kernel
theorem dX12_isSo_127 : decode cX12_isSo 127 = .ok (.iload 5, 2) := by decide +kernel
theorem dX12_isSo_129 : decode cX12_isSo 129 = .ok (.iload 4, 2) := by decide +kernel
theorem dX12_isSo_131 : decode cX12_isSo 131 = .ok (.if_icmp .ge 27, 3) := by decide +kernel
theorem dX12_isSo_134 : decode cX12_isSo 134 = .ok (.aload_n 0, 1) := by decide +kernel
theorem dX12_isSo_135 : decode cX12_isSo 135 = .ok (.getfield 45, 3) := by decide +kernel
theorem dX12_isSo_138 : decode cX12_isSo 138 = .ok (.bipush 8, 2) := by decide +kernel
theorem dX12_isSo_140 : decode cX12_isSo 140 = .ok (.iload_n 1, 1) := by decide +kernel
theorem dX12_isSo_141 : decode cX12_isSo 141 = .ok (.imul, 1) := by decide +kernel
theorem dX12_isSo_142 : decode cX12_isSo 142 = .ok (.iload 5, 2) := by decide +kernel
theorem dX12_isSo_144 : decode cX12_isSo 144 = .ok (.iadd, 1) := by decide +kernel
theorem dX12_isSo_145 : decode cX12_isSo 145 = .ok (.iaload, 1) := by decide +kernel
theorem dX12_isSo_146 : decode cX12_isSo 146 = .ok (.iload_n 3, 1) := by decide +kernel
theorem dX12_isSo_147 : decode cX12_isSo 147 = .ok (.if_icmp .ne 5, 3) := by decide +kernel
theorem dX12_isSo_150 : decode cX12_isSo 150 = .ok (.iconst 1, 1) := by decide +kernel
theorem dX12_isSo_151 : decode cX12_isSo 151 = .ok (.ireturn, 1) := by decide +kernel
theorem dX12_isSo_152 : decode cX12_isSo 152 = .ok (.iinc 5 1, 3) := by decide +kernel
theorem dX12_isSo_155 : decode cX12_isSo 155 = .ok (.goto (-28), 3) := by decide +kernel
theorem dX12_isSo_158 : decode cX12_isSo 158 = .ok (.iconst 0, 1) := by decide +kernel
theorem dX12_isSo_159 : decode cX12_isSo 159 = .ok (.ireturn, 1) := by decide +kernel
theorem dX12_layFits_0 : decode cX12_layFits 0 = .ok (.aload_n 0, 1) := by decide +kernel
theorem dX12_layFits_1 : decode cX12_layFits 1 = .ok (.aload_n 0, 1) := by decide +kernel
theorem dX12_layFits_2 : decode cX12_layFits 2 = .ok (.getfield 9, 3) := by decide +kernel
theorem dX12_layFits_5 : decode cX12_layFits 5 = .ok (.iload_n 1, 1) := by decide +kernel
theorem dX12_layFits_6 : decode cX12_layFits 6 = .ok (.invokevirtual 327, 3) := by decide +kernel
theorem dX12_layFits_9 : decode cX12_layFits 9 = .ok (.pop, 1) := by decide +kernel
theorem dX12_layFits_10 : decode cX12_layFits 10 = .ok (.iconst 0, 1) := by decide +kernel
theorem dX12_layFits_11 : decode cX12_layFits 11 = .ok (.istore_n 2, 1) := by decide +kernel
theorem dX12_layFits_12 : decode cX12_layFits 12 = .ok (.iconst 0, 1) := by decide +kernel
theorem dX12_layFits_13 : decode cX12_layFits 13 = .ok (.istore_n 3, 1) := by decide +kernel
theorem dX12_layFits_14 : decode cX12_layFits 14 = .ok (.iload_n 3, 1) := by decide +kernel
theorem dX12_layFits_15 : decode cX12_layFits 15 = .ok (.aload_n 0, 1) := by decide +kernel
theorem dX12_layFits_16 : decode cX12_layFits 16 = .ok (.getfield 276, 3) := by decide +kernel
theorem dX12_layFits_19 : decode cX12_layFits 19 = .ok (.if_icmp .ge 77, 3) := by decide +kernel
theorem dX12_layFits_22 : decode cX12_layFits 22 = .ok (.iconst 1, 1) := by decide +kernel
theorem dX12_layFits_23 : decode cX12_layFits 23 = .ok (.istore 4, 2) := by decide +kernel
theorem dX12_layFits_25 : decode cX12_layFits 25 = .ok (.iconst 0, 1) := by decide +kernel
theorem dX12_layFits_26 : decode cX12_layFits 26 = .ok (.istore 5, 2) := by decide +kernel
theorem dX12_layFits_28 : decode cX12_layFits 28 = .ok (.iload 5, 2) := by decide +kernel
theorem dX12_layFits_30 : decode cX12_layFits 30 = .ok (.aload_n 0, 1) := by decide +kernel
theorem dX12_layFits_31 : decode cX12_layFits 31 = .ok (.getfield 348, 3) := by decide +kernel
theorem dX12_layFits_34 : decode cX12_layFits 34 = .ok (.if_icmp .ge 35, 3) := by decide +kernel
theorem dX12_layFits_37 : decode cX12_layFits 37 = .ok (.iload 4, 2) := by decide +kernel
theorem dX12_layFits_39 : decode cX12_layFits 39 = .ok (.ifCond .eq 30, 3) := by decide +kernel
theorem dX12_layFits_42 : decode cX12_layFits 42 = .ok (.aload_n 0, 1) := by decide +kernel
theorem dX12_layFits_43 : decode cX12_layFits 43 = .ok (.iload_n 3, 1) := by decide +kernel
theorem dX12_layFits_44 : decode cX12_layFits 44 = .ok (.aload_n 0, 1) := by decide +kernel
theorem dX12_layFits_45 : decode cX12_layFits 45 = .ok (.getfield 78, 3) := by decide +kernel
theorem dX12_layFits_48 : decode cX12_layFits 48 = .ok (.iload 5, 2) := by decide +kernel
theorem dX12_layFits_50 : decode cX12_layFits 50 = .ok (.iaload, 1) := by decide +kernel
theorem dX12_layFits_51 : decode cX12_layFits 51 = .ok (.aload_n 0, 1) := by decide +kernel
theorem dX12_layFits_52 : decode cX12_layFits 52 = .ok (.getfield 81, 3) := by decide +kernel
theorem dX12_layFits_55 : decode cX12_layFits 55 = .ok (.iload 5, 2) := by decide +kernel
theorem dX12_layFits_57 : decode cX12_layFits 57 = .ok (.iaload, 1) := by decide +kernel
theorem dX12_layFits_58 : decode cX12_layFits 58 = .ok (.invokevirtual 351, 3) := by decide +kernel
theorem dX12_layFits_61 : decode cX12_layFits 61 = .ok (.istore 4, 2) := by decide +kernel
theorem dX12_layFits_63 : decode cX12_layFits 63 = .ok (.iinc 5 1, 3) := by decide +kernel
theorem dX12_layFits_66 : decode cX12_layFits 66 = .ok (.goto (-38), 3) := by decide +kernel
theorem dX12_layFits_69 : decode cX12_layFits 69 = .ok (.aload_n 0, 1) := by decide +kernel
theorem dX12_layFits_70 : decode cX12_layFits 70 = .ok (.getfield 84, 3) := by decide +kernel
theorem dX12_layFits_73 : decode cX12_layFits 73 = .ok (.iload_n 3, 1) := by decide +kernel
theorem dX12_layFits_74 : decode cX12_layFits 74 = .ok (.iload 4, 2) := by decide +kernel
theorem dX12_layFits_76 : decode cX12_layFits 76 = .ok (.bastore, 1) := by decide +kernel
theorem dX12_layFits_77 : decode cX12_layFits 77 = .ok (.iload_n 2, 1) := by decide +kernel
theorem dX12_layFits_78 : decode cX12_layFits 78 = .ok (.iload 4, 2) := by decide +kernel
theorem dX12_layFits_80 : decode cX12_layFits 80 = .ok (.ifCond .eq 7, 3) := by decide +kernel
theorem dX12_layFits_83 : decode cX12_layFits 83 = .ok (.iconst 1, 1) := by decide +kernel
theorem dX12_layFits_84 : decode cX12_layFits 84 = .ok (.goto 4, 3) := by decide +kernel
theorem dX12_layFits_87 : decode cX12_layFits 87 = .ok (.iconst 0, 1) := by decide +kernel
theorem dX12_layFits_88 : decode cX12_layFits 88 = .ok (.iadd, 1) := by decide +kernel
theorem dX12_layFits_89 : decode cX12_layFits 89 = .ok (.istore_n 2, 1) := by decide +kernel
theorem dX12_layFits_90 : decode cX12_layFits 90 = .ok (.iinc 3 1, 3) := by decide +kernel
theorem dX12_layFits_93 : decode cX12_layFits 93 = .ok (.goto (-79), 3) := by decide +kernel
theorem dX12_layFits_96 : decode cX12_layFits 96 = .ok (.iload_n 2, 1) := by decide +kernel
theorem dX12_layFits_97 : decode cX12_layFits 97 = .ok (.ireturn, 1) := by decide +kernel
theorem dX12_fits_0 : decode cX12_fits 0 = .ok (.aload_n 0, 1) := by decide +kernel
theorem dX12_fits_1 : decode cX12_fits 1 = .ok (.iconst 0, 1) := by decide +kernel
theorem dX12_fits_2 : decode cX12_fits 2 = .ok (.putfield 94, 3) := by decide +kernel
theorem dX12_fits_5 : decode cX12_fits 5 = .ok (.iload_n 1, 1) := by decide +kernel
theorem dX12_fits_6 : decode cX12_fits 6 = .ok (.invokestatic 324, 3) := by decide +kernel
theorem dX12_fits_9 : decode cX12_fits 9 = .ok (.ifCond .ne 5, 3) := by decide +kernel
theorem dX12_fits_12 : decode cX12_fits 12 = .ok (.iconst (-1), 1) := by decide +kernel
theorem dX12_fits_13 : decode cX12_fits 13 = .ok (.ireturn, 1) := by decide +kernel
theorem dX12_fits_14 : decode cX12_fits 14 = .ok (.aload_n 0, 1) := by decide +kernel
theorem dX12_fits_15 : decode cX12_fits 15 = .ok (.iload_n 1, 1) := by decide +kernel
theorem dX12_fits_16 : decode cX12_fits 16 = .ok (.invokevirtual 354, 3) := by decide +kernel
theorem dX12_fits_19 : decode cX12_fits 19 = .ok (.istore_n 2, 1) := by decide +kernel
theorem dX12_fits_20 : decode cX12_fits 20 = .ok (.aload_n 0, 1) := by decide +kernel
theorem dX12_fits_21 : decode cX12_fits 21 = .ok (.iconst 0, 1) := by decide +kernel
theorem dX12_fits_22 : decode cX12_fits 22 = .ok (.putfield 98, 3) := by decide +kernel
theorem dX12_fits_25 : decode cX12_fits 25 = .ok (.iconst 1, 1) := by decide +kernel
theorem dX12_fits_26 : decode cX12_fits 26 = .ok (.istore_n 3, 1) := by decide +kernel
theorem dX12_fits_27 : decode cX12_fits 27 = .ok (.iload_n 3, 1) := by decide +kernel
theorem dX12_fits_28 : decode cX12_fits 28 = .ok (.aload_n 0, 1) := by decide +kernel
theorem dX12_fits_29 : decode cX12_fits 29 = .ok (.getfield 276, 3) := by decide +kernel
theorem dX12_fits_32 : decode cX12_fits 32 = .ok (.if_icmp .gt 38, 3) := by decide +kernel
theorem dX12_fits_35 : decode cX12_fits 35 = .ok (.aload_n 0, 1) := by decide +kernel
theorem dX12_fits_36 : decode cX12_fits 36 = .ok (.getfield 98, 3) := by decide +kernel
theorem dX12_fits_39 : decode cX12_fits 39 = .ok (.ifCond .ne 31, 3) := by decide +kernel
theorem dX12_fits_42 : decode cX12_fits 42 = .ok (.aload_n 0, 1) := by decide +kernel
theorem dX12_fits_43 : decode cX12_fits 43 = .ok (.getfield 84, 3) := by decide +kernel
theorem dX12_fits_46 : decode cX12_fits 46 = .ok (.aload_n 0, 1) := by decide +kernel
theorem dX12_fits_47 : decode cX12_fits 47 = .ok (.getfield 54, 3) := by decide +kernel
theorem dX12_fits_50 : decode cX12_fits 50 = .ok (.iload_n 3, 1) := by decide +kernel
theorem dX12_fits_51 : decode cX12_fits 51 = .ok (.iconst 1, 1) := by decide +kernel
theorem dX12_fits_52 : decode cX12_fits 52 = .ok (.isub, 1) := by decide +kernel
theorem dX12_fits_53 : decode cX12_fits 53 = .ok (.iaload, 1) := by decide +kernel
theorem dX12_fits_54 : decode cX12_fits 54 = .ok (.baload, 1) := by decide +kernel
theorem dX12_fits_55 : decode cX12_fits 55 = .ok (.ifCond .eq 9, 3) := by decide +kernel
theorem dX12_fits_58 : decode cX12_fits 58 = .ok (.aload_n 0, 1) := by decide +kernel
theorem dX12_fits_59 : decode cX12_fits 59 = .ok (.iload_n 3, 1) := by decide +kernel
theorem dX12_fits_60 : decode cX12_fits 60 = .ok (.i2l, 1) := by decide +kernel
theorem dX12_fits_61 : decode cX12_fits 61 = .ok (.invokevirtual 269, 3) := by decide +kernel
theorem dX12_fits_64 : decode cX12_fits 64 = .ok (.iinc 3 1, 3) := by decide +kernel
theorem dX12_fits_67 : decode cX12_fits 67 = .ok (.goto (-40), 3) := by decide +kernel
theorem dX12_fits_70 : decode cX12_fits 70 = .ok (.iload_n 2, 1) := by decide +kernel
theorem dX12_fits_71 : decode cX12_fits 71 = .ok (.ireturn, 1) := by decide +kernel
theorem dX12_asks_0 : decode cX12_asks 0 = .ok (.aload_n 0, 1) := by decide +kernel
theorem dX12_asks_1 : decode cX12_asks 1 = .ok (.iconst 0, 1) := by decide +kernel
theorem dX12_asks_2 : decode cX12_asks 2 = .ok (.putfield 94, 3) := by decide +kernel
theorem dX12_asks_5 : decode cX12_asks 5 = .ok (.iload_n 1, 1) := by decide +kernel
theorem dX12_asks_6 : decode cX12_asks 6 = .ok (.invokestatic 324, 3) := by decide +kernel
theorem dX12_asks_9 : decode cX12_asks 9 = .ok (.ifCond .ne 5, 3) := by decide +kernel
theorem dX12_asks_12 : decode cX12_asks 12 = .ok (.iconst (-1), 1) := by decide +kernel
theorem dX12_asks_13 : decode cX12_asks 13 = .ok (.ireturn, 1) := by decide +kernel
theorem dX12_asks_14 : decode cX12_asks 14 = .ok (.aload_n 0, 1) := by decide +kernel
theorem dX12_asks_15 : decode cX12_asks 15 = .ok (.iload_n 1, 1) := by decide +kernel
theorem dX12_asks_16 : decode cX12_asks 16 = .ok (.invokevirtual 354, 3) := by decide +kernel
theorem dX12_asks_19 : decode cX12_asks 19 = .ok (.istore_n 2, 1) := by decide +kernel
theorem dX12_asks_20 : decode cX12_asks 20 = .ok (.iload_n 2, 1) := by decide +kernel
theorem dX12_asks_21 : decode cX12_asks 21 = .ok (.ifCond .ne 6, 3) := by decide +kernel
theorem dX12_asks_24 : decode cX12_asks 24 = .ok (.bipush (-2), 2) := by decide +kernel
theorem dX12_asks_26 : decode cX12_asks 26 = .ok (.ireturn, 1) := by decide +kernel
theorem dX12_asks_27 : decode cX12_asks 27 = .ok (.iconst (-1), 1) := by decide +kernel
theorem dX12_asks_28 : decode cX12_asks 28 = .ok (.istore_n 3, 1) := by decide +kernel
theorem dX12_asks_29 : decode cX12_asks 29 = .ok (.ldc_w 357, 3) := by decide +kernel
theorem dX12_asks_32 : decode cX12_asks 32 = .ok (.istore 4, 2) := by decide +kernel
theorem dX12_asks_34 : decode cX12_asks 34 = .ok (.iconst 0, 1) := by decide +kernel
theorem dX12_asks_35 : decode cX12_asks 35 = .ok (.istore 5, 2) := by decide +kernel
theorem dX12_asks_37 : decode cX12_asks 37 = .ok (.iload 5, 2) := by decide +kernel
theorem dX12_asks_39 : decode cX12_asks 39 = .ok (.iconst 5, 1) := by decide +kernel
theorem dX12_asks_40 : decode cX12_asks 40 = .ok (.if_icmp .ge 116, 3) := by decide +kernel
theorem dX12_asks_43 : decode cX12_asks 43 = .ok (.iconst 0, 1) := by decide +kernel
theorem dX12_asks_44 : decode cX12_asks 44 = .ok (.istore 6, 2) := by decide +kernel
theorem dX12_asks_46 : decode cX12_asks 46 = .ok (.iload 6, 2) := by decide +kernel
theorem dX12_asks_48 : decode cX12_asks 48 = .ok (.iload 5, 2) := by decide +kernel
theorem dX12_asks_50 : decode cX12_asks 50 = .ok (.invokestatic 345, 3) := by decide +kernel
theorem dX12_asks_53 : decode cX12_asks 53 = .ok (.if_icmp .gt 97, 3) := by decide +kernel
theorem dX12_asks_56 : decode cX12_asks 56 = .ok (.iconst 0, 1) := by decide +kernel
theorem dX12_asks_57 : decode cX12_asks 57 = .ok (.istore 7, 2) := by decide +kernel
theorem dX12_asks_59 : decode cX12_asks 59 = .ok (.iconst 0, 1) := by decide +kernel
theorem dX12_asks_60 : decode cX12_asks 60 = .ok (.istore 8, 2) := by decide +kernel
theorem dX12_asks_62 : decode cX12_asks 62 = .ok (.iload 8, 2) := by decide +kernel
theorem dX12_asks_64 : decode cX12_asks 64 = .ok (.aload_n 0, 1) := by decide +kernel
theorem dX12_asks_65 : decode cX12_asks 65 = .ok (.getfield 276, 3) := by decide +kernel
theorem dX12_asks_68 : decode cX12_asks 68 = .ok (.if_icmp .ge 42, 3) := by decide +kernel
theorem dX12_asks_71 : decode cX12_asks 71 = .ok (.iload 7, 2) := by decide +kernel
theorem dX12_asks_73 : decode cX12_asks 73 = .ok (.aload_n 0, 1) := by decide +kernel
theorem dX12_asks_74 : decode cX12_asks 74 = .ok (.getfield 84, 3) := by decide +kernel
theorem dX12_asks_77 : decode cX12_asks 77 = .ok (.iload 8, 2) := by decide +kernel
theorem dX12_asks_79 : decode cX12_asks 79 = .ok (.baload, 1) := by decide +kernel
theorem dX12_asks_80 : decode cX12_asks 80 = .ok (.ifCond .eq 20, 3) := by decide +kernel
theorem dX12_asks_83 : decode cX12_asks 83 = .ok (.aload_n 0, 1) := by decide +kernel
theorem dX12_asks_84 : decode cX12_asks 84 = .ok (.iload 8, 2) := by decide +kernel
theorem dX12_asks_86 : decode cX12_asks 86 = .ok (.iload 5, 2) := by decide +kernel
theorem dX12_asks_88 : decode cX12_asks 88 = .ok (.iload 6, 2) := by decide +kernel
theorem dX12_asks_90 : decode cX12_asks 90 = .ok (.invokevirtual 351, 3) := by decide +kernel
theorem dX12_asks_93 : decode cX12_asks 93 = .ok (.ifCond .eq 7, 3) := by decide +kernel
theorem dX12_asks_96 : decode cX12_asks 96 = .ok (.iconst 1, 1) := by decide +kernel
theorem dX12_asks_97 : decode cX12_asks 97 = .ok (.goto 4, 3) := by decide +kernel
theorem dX12_asks_100 : decode cX12_asks 100 = .ok (.iconst 0, 1) := by decide +kernel
theorem dX12_asks_101 : decode cX12_asks 101 = .ok (.iadd, 1) := by decide +kernel
theorem dX12_asks_102 : decode cX12_asks 102 = .ok (.istore 7, 2) := by decide +kernel
theorem dX12_asks_104 : decode cX12_asks 104 = .ok (.iinc 8 1, 3) := by decide +kernel
theorem dX12_asks_107 : decode cX12_asks 107 = .ok (.goto (-45), 3) := by decide +kernel
theorem dX12_asks_110 : decode cX12_asks 110 = .ok (.iload 7, 2) := by decide +kernel
theorem dX12_asks_112 : decode cX12_asks 112 = .ok (.iload_n 2, 1) := by decide +kernel
theorem dX12_asks_113 : decode cX12_asks 113 = .ok (.iload 7, 2) := by decide +kernel
theorem dX12_asks_115 : decode cX12_asks 115 = .ok (.isub, 1) := by decide +kernel
theorem dX12_asks_116 : decode cX12_asks 116 = .ok (.invokestatic 204, 3) := by decide +kernel
theorem dX12_asks_119 : decode cX12_asks 119 = .ok (.istore 8, 2) := by decide +kernel
theorem dX12_asks_121 : decode cX12_asks 121 = .ok (.iload 8, 2) := by decide +kernel
theorem dX12_asks_123 : decode cX12_asks 123 = .ok (.iload 4, 2) := by decide +kernel
theorem dX12_asks_125 : decode cX12_asks 125 = .ok (.if_icmp .lt 6, 3) := by decide +kernel
theorem dX12_asks_128 : decode cX12_asks 128 = .ok (.goto 16, 3) := by decide +kernel
theorem dX12_asks_131 : decode cX12_asks 131 = .ok (.bipush 100, 2) := by decide +kernel
theorem dX12_asks_133 : decode cX12_asks 133 = .ok (.iload 5, 2) := by decide +kernel
theorem dX12_asks_135 : decode cX12_asks 135 = .ok (.imul, 1) := by decide +kernel
theorem dX12_asks_136 : decode cX12_asks 136 = .ok (.iload 6, 2) := by decide +kernel
theorem dX12_asks_138 : decode cX12_asks 138 = .ok (.iadd, 1) := by decide +kernel
theorem dX12_asks_139 : decode cX12_asks 139 = .ok (.istore_n 3, 1) := by decide +kernel
theorem dX12_asks_140 : decode cX12_asks 140 = .ok (.iload 8, 2) := by decide +kernel
theorem dX12_asks_142 : decode cX12_asks 142 = .ok (.istore 4, 2) := by decide +kernel
theorem dX12_asks_144 : decode cX12_asks 144 = .ok (.iinc 6 1, 3) := by decide +kernel
theorem dX12_asks_147 : decode cX12_asks 147 = .ok (.goto (-101), 3) := by decide +kernel
theorem dX12_asks_150 : decode cX12_asks 150 = .ok (.iinc 5 1, 3) := by decide +kernel
theorem dX12_asks_153 : decode cX12_asks 153 = .ok (.goto (-116), 3) := by decide +kernel
theorem dX12_asks_156 : decode cX12_asks 156 = .ok (.aload_n 0, 1) := by decide +kernel
theorem dX12_asks_157 : decode cX12_asks 157 = .ok (.iconst 0, 1) := by decide +kernel
theorem dX12_asks_158 : decode cX12_asks 158 = .ok (.putfield 98, 3) := by decide +kernel
theorem dX12_asks_161 : decode cX12_asks 161 = .ok (.aload_n 0, 1) := by decide +kernel
theorem dX12_asks_162 : decode cX12_asks 162 = .ok (.iload 4, 2) := by decide +kernel
theorem dX12_asks_164 : decode cX12_asks 164 = .ok (.i2l, 1) := by decide +kernel
theorem dX12_asks_165 : decode cX12_asks 165 = .ok (.invokevirtual 269, 3) := by decide +kernel
theorem dX12_asks_168 : decode cX12_asks 168 = .ok (.iload_n 3, 1) := by decide +kernel
theorem dX12_asks_169 : decode cX12_asks 169 = .ok (.ireturn, 1) := by decide +kernel
theorem dX12_common_0 : decode cX12_common 0 = .ok (.lload_n 2, 1) := by decide +kernel
theorem dX12_common_1 : decode cX12_common 1 = .ok (.lconst 0, 1) := by decide +kernel
theorem dX12_common_2 : decode cX12_common 2 = .ok (.lcmp, 1) := by decide +kernel
theorem dX12_common_3 : decode cX12_common 3 = .ok (.ifCond .ne 7, 3) := by decide +kernel
theorem dX12_common_6 : decode cX12_common 6 = .ok (.lload_n 0, 1) := by decide +kernel
theorem dX12_common_7 : decode cX12_common 7 = .ok (.goto 10, 3) := by decide +kernel
theorem dX12_common_10 : decode cX12_common 10 = .ok (.lload_n 2, 1) := by decide +kernel
theorem dX12_common_11 : decode cX12_common 11 = .ok (.lload_n 0, 1) := by decide +kernel
theorem dX12_common_12 : decode cX12_common 12 = .ok (.lload_n 2, 1) := by decide +kernel
theorem dX12_common_13 : decode cX12_common 13 = .ok (.lrem, 1) := by decide +kernel
theorem dX12_common_14 : decode cX12_common 14 = .ok (.invokestatic 358, 3) := by decide +kernel
theorem dX12_common_17 : decode cX12_common 17 = .ok (.lreturn, 1) := by decide +kernel
theorem dX12_odds_0 : decode cX12_odds 0 = .ok (.aload_n 0, 1) := by decide +kernel
theorem dX12_odds_1 : decode cX12_odds 1 = .ok (.iconst 0, 1) := by decide +kernel
theorem dX12_odds_2 : decode cX12_odds 2 = .ok (.putfield 94, 3) := by decide +kernel
theorem dX12_odds_5 : decode cX12_odds 5 = .ok (.iload_n 1, 1) := by decide +kernel
theorem dX12_odds_6 : decode cX12_odds 6 = .ok (.invokestatic 324, 3) := by decide +kernel
theorem dX12_odds_9 : decode cX12_odds 9 = .ok (.ifCond .eq 12, 3) := by decide +kernel
theorem dX12_odds_12 : decode cX12_odds 12 = .ok (.iload_n 3, 1) := by decide +kernel
theorem dX12_odds_13 : decode cX12_odds 13 = .ok (.iconst 1, 1) := by decide +kernel
theorem dX12_odds_14 : decode cX12_odds 14 = .ok (.iconst 3, 1) := by decide +kernel
theorem dX12_odds_15 : decode cX12_odds 15 = .ok (.invokestatic 101, 3) := by decide +kernel
theorem dX12_odds_18 : decode cX12_odds 18 = .ok (.ifCond .ne 5, 3) := by decide +kernel
theorem dX12_odds_21 : decode cX12_odds 21 = .ok (.iconst (-1), 1) := by decide +kernel
theorem dX12_odds_22 : decode cX12_odds 22 = .ok (.ireturn, 1) := by decide +kernel
theorem dX12_odds_23 : decode cX12_odds 23 = .ok (.aload_n 0, 1) := by decide +kernel
theorem dX12_odds_24 : decode cX12_odds 24 = .ok (.aload_n 0, 1) := by decide +kernel
theorem dX12_odds_25 : decode cX12_odds 25 = .ok (.getfield 9, 3) := by decide +kernel
theorem dX12_odds_28 : decode cX12_odds 28 = .ok (.iload_n 1, 1) := by decide +kernel
theorem dX12_odds_29 : decode cX12_odds 29 = .ok (.invokevirtual 327, 3) := by decide +kernel
theorem dX12_odds_32 : decode cX12_odds 32 = .ok (.istore 4, 2) := by decide +kernel
theorem dX12_odds_34 : decode cX12_odds 34 = .ok (.iload 4, 2) := by decide +kernel
theorem dX12_odds_36 : decode cX12_odds 36 = .ok (.ifCond .ne 6, 3) := by decide +kernel
theorem dX12_odds_39 : decode cX12_odds 39 = .ok (.bipush (-2), 2) := by decide +kernel
theorem dX12_odds_41 : decode cX12_odds 41 = .ok (.ireturn, 1) := by decide +kernel
theorem dX12_odds_42 : decode cX12_odds 42 = .ok (.lconst 1, 1) := by decide +kernel
theorem dX12_odds_43 : decode cX12_odds 43 = .ok (.lstore 5, 2) := by decide +kernel
theorem dX12_odds_45 : decode cX12_odds 45 = .ok (.lconst 1, 1) := by decide +kernel
theorem dX12_odds_46 : decode cX12_odds 46 = .ok (.lstore 7, 2) := by decide +kernel
theorem dX12_odds_48 : decode cX12_odds 48 = .ok (.iconst 0, 1) := by decide +kernel
theorem dX12_odds_49 : decode cX12_odds 49 = .ok (.istore 9, 2) := by decide +kernel
theorem dX12_odds_51 : decode cX12_odds 51 = .ok (.iload 9, 2) := by decide +kernel
theorem dX12_odds_53 : decode cX12_odds 53 = .ok (.iload_n 3, 1) := by decide +kernel
theorem dX12_odds_54 : decode cX12_odds 54 = .ok (.if_icmp .ge 31, 3) := by decide +kernel
theorem dX12_odds_57 : decode cX12_odds 57 = .ok (.lload 5, 2) := by decide +kernel
theorem dX12_odds_59 : decode cX12_odds 59 = .ok (.iload 4, 2) := by decide +kernel
theorem dX12_odds_61 : decode cX12_odds 61 = .ok (.aload_n 0, 1) := by decide +kernel
theorem dX12_odds_62 : decode cX12_odds 62 = .ok (.iload_n 2, 1) := by decide +kernel
theorem dX12_odds_63 : decode cX12_odds 63 = .ok (.invokevirtual 336, 3) := by decide +kernel
theorem dX12_odds_66 : decode cX12_odds 66 = .ok (.isub, 1) := by decide +kernel
theorem dX12_odds_67 : decode cX12_odds 67 = .ok (.i2l, 1) := by decide +kernel
theorem dX12_odds_68 : decode cX12_odds 68 = .ok (.lmul, 1) := by decide +kernel
theorem dX12_odds_69 : decode cX12_odds 69 = .ok (.lstore 5, 2) := by decide +kernel
theorem dX12_odds_71 : decode cX12_odds 71 = .ok (.lload 7, 2) := by decide +kernel
theorem dX12_odds_73 : decode cX12_odds 73 = .ok (.iload 4, 2) := by decide +kernel
theorem dX12_odds_75 : decode cX12_odds 75 = .ok (.i2l, 1) := by decide +kernel
theorem dX12_odds_76 : decode cX12_odds 76 = .ok (.lmul, 1) := by decide +kernel
theorem dX12_odds_77 : decode cX12_odds 77 = .ok (.lstore 7, 2) := by decide +kernel
theorem dX12_odds_79 : decode cX12_odds 79 = .ok (.iinc 9 1, 3) := by decide +kernel
theorem dX12_odds_82 : decode cX12_odds 82 = .ok (.goto (-31), 3) := by decide +kernel
theorem dX12_odds_85 : decode cX12_odds 85 = .ok (.lload 7, 2) := by decide +kernel
theorem dX12_odds_87 : decode cX12_odds 87 = .ok (.lload 5, 2) := by decide +kernel
theorem dX12_odds_89 : decode cX12_odds 89 = .ok (.lsub, 1) := by decide +kernel
theorem dX12_odds_90 : decode cX12_odds 90 = .ok (.lload 7, 2) := by decide +kernel
theorem dX12_odds_92 : decode cX12_odds 92 = .ok (.invokestatic 358, 3) := by decide +kernel
theorem dX12_odds_95 : decode cX12_odds 95 = .ok (.lstore 9, 2) := by decide +kernel
theorem dX12_odds_97 : decode cX12_odds 97 = .ok (.aload_n 0, 1) := by decide +kernel
theorem dX12_odds_98 : decode cX12_odds 98 = .ok (.iconst 0, 1) := by decide +kernel
theorem dX12_odds_99 : decode cX12_odds 99 = .ok (.putfield 98, 3) := by decide +kernel
theorem dX12_odds_102 : decode cX12_odds 102 = .ok (.aload_n 0, 1) := by decide +kernel
theorem dX12_odds_103 : decode cX12_odds 103 = .ok (.lload 7, 2) := by decide +kernel
theorem dX12_odds_105 : decode cX12_odds 105 = .ok (.lload 5, 2) := by decide +kernel
theorem dX12_odds_107 : decode cX12_odds 107 = .ok (.lsub, 1) := by decide +kernel
theorem dX12_odds_108 : decode cX12_odds 108 = .ok (.lload 9, 2) := by decide +kernel
theorem dX12_odds_110 : decode cX12_odds 110 = .ok (.ldiv, 1) := by decide +kernel
theorem dX12_odds_111 : decode cX12_odds 111 = .ok (.invokevirtual 269, 3) := by decide +kernel
theorem dX12_odds_114 : decode cX12_odds 114 = .ok (.aload_n 0, 1) := by decide +kernel
theorem dX12_odds_115 : decode cX12_odds 115 = .ok (.lload 7, 2) := by decide +kernel
theorem dX12_odds_117 : decode cX12_odds 117 = .ok (.lload 9, 2) := by decide +kernel
theorem dX12_odds_119 : decode cX12_odds 119 = .ok (.ldiv, 1) := by decide +kernel
theorem dX12_odds_120 : decode cX12_odds 120 = .ok (.invokevirtual 269, 3) := by decide +kernel
theorem dX12_odds_123 : decode cX12_odds 123 = .ok (.iconst 0, 1) := by decide +kernel
theorem dX12_odds_124 : decode cX12_odds 124 = .ok (.ireturn, 1) := by decide +kernel
theorem dX12_duelOf_0 : decode cX12_duelOf 0 = .ok (.iload_n 2, 1) := by decide +kernel
theorem dX12_duelOf_1 : decode cX12_duelOf 1 = .ok (.iload_n 3, 1) := by decide +kernel
theorem dX12_duelOf_2 : decode cX12_duelOf 2 = .ok (.if_icmp .le 5, 3) := by decide +kernel
theorem dX12_duelOf_5 : decode cX12_duelOf 5 = .ok (.iconst 0, 1) := by decide +kernel
theorem dX12_duelOf_6 : decode cX12_duelOf 6 = .ok (.ireturn, 1) := by decide +kernel
theorem dX12_duelOf_7 : decode cX12_duelOf 7 = .ok (.aload_n 0, 1) := by decide +kernel
theorem dX12_duelOf_8 : decode cX12_duelOf 8 = .ok (.getfield 9, 3) := by decide +kernel
theorem dX12_duelOf_11 : decode cX12_duelOf 11 = .ok (.bipush 6, 2) := by decide +kernel
theorem dX12_duelOf_13 : decode cX12_duelOf 13 = .ok (.iload_n 1, 1) := by decide +kernel
theorem dX12_duelOf_14 : decode cX12_duelOf 14 = .ok (.imul, 1) := by decide +kernel
theorem dX12_duelOf_15 : decode cX12_duelOf 15 = .ok (.iload_n 2, 1) := by decide +kernel
theorem dX12_duelOf_16 : decode cX12_duelOf 16 = .ok (.iadd, 1) := by decide +kernel
theorem dX12_duelOf_17 : decode cX12_duelOf 17 = .ok (.iaload, 1) := by decide +kernel
theorem dX12_duelOf_18 : decode cX12_duelOf 18 = .ok (.aload_n 0, 1) := by decide +kernel
theorem dX12_duelOf_19 : decode cX12_duelOf 19 = .ok (.iload_n 1, 1) := by decide +kernel
theorem dX12_duelOf_20 : decode cX12_duelOf 20 = .ok (.iload_n 2, 1) := by decide +kernel
theorem dX12_duelOf_21 : decode cX12_duelOf 21 = .ok (.iconst 1, 1) := by decide +kernel
theorem dX12_duelOf_22 : decode cX12_duelOf 22 = .ok (.iadd, 1) := by decide +kernel
theorem dX12_duelOf_23 : decode cX12_duelOf 23 = .ok (.iload_n 3, 1) := by decide +kernel
theorem dX12_duelOf_24 : decode cX12_duelOf 24 = .ok (.invokevirtual 362, 3) := by decide +kernel
theorem dX12_duelOf_27 : decode cX12_duelOf 27 = .ok (.isub, 1) := by decide +kernel
theorem dX12_duelOf_28 : decode cX12_duelOf 28 = .ok (.aload_n 0, 1) := by decide +kernel
theorem dX12_duelOf_29 : decode cX12_duelOf 29 = .ok (.getfield 9, 3) := by decide +kernel
theorem dX12_duelOf_32 : decode cX12_duelOf 32 = .ok (.bipush 6, 2) := by decide +kernel
theorem dX12_duelOf_34 : decode cX12_duelOf 34 = .ok (.iload_n 1, 1) := by decide +kernel
theorem dX12_duelOf_35 : decode cX12_duelOf 35 = .ok (.imul, 1) := by decide +kernel
theorem dX12_duelOf_36 : decode cX12_duelOf 36 = .ok (.iload_n 3, 1) := by decide +kernel
theorem dX12_duelOf_37 : decode cX12_duelOf 37 = .ok (.iadd, 1) := by decide +kernel
theorem dX12_duelOf_38 : decode cX12_duelOf 38 = .ok (.iaload, 1) := by decide +kernel
theorem dX12_duelOf_39 : decode cX12_duelOf 39 = .ok (.aload_n 0, 1) := by decide +kernel
theorem dX12_duelOf_40 : decode cX12_duelOf 40 = .ok (.iload_n 1, 1) := by decide +kernel
theorem dX12_duelOf_41 : decode cX12_duelOf 41 = .ok (.iload_n 2, 1) := by decide +kernel
theorem dX12_duelOf_42 : decode cX12_duelOf 42 = .ok (.iload_n 3, 1) := by decide +kernel
theorem dX12_duelOf_43 : decode cX12_duelOf 43 = .ok (.iconst 1, 1) := by decide +kernel
theorem dX12_duelOf_44 : decode cX12_duelOf 44 = .ok (.isub, 1) := by decide +kernel
theorem dX12_duelOf_45 : decode cX12_duelOf 45 = .ok (.invokevirtual 362, 3) := by decide +kernel
theorem dX12_duelOf_48 : decode cX12_duelOf 48 = .ok (.isub, 1) := by decide +kernel
theorem dX12_duelOf_49 : decode cX12_duelOf 49 = .ok (.invokestatic 204, 3) := by decide +kernel
theorem dX12_duelOf_52 : decode cX12_duelOf 52 = .ok (.ireturn, 1) := by decide +kernel
theorem dX12_duel_0 : decode cX12_duel 0 = .ok (.aload_n 0, 1) := by decide +kernel
theorem dX12_duel_1 : decode cX12_duel 1 = .ok (.iconst 0, 1) := by decide +kernel
theorem dX12_duel_2 : decode cX12_duel 2 = .ok (.putfield 94, 3) := by decide +kernel
theorem dX12_duel_5 : decode cX12_duel 5 = .ok (.iload_n 1, 1) := by decide +kernel
theorem dX12_duel_6 : decode cX12_duel 6 = .ok (.invokestatic 161, 3) := by decide +kernel
theorem dX12_duel_9 : decode cX12_duel 9 = .ok (.ifCond .ne 5, 3) := by decide +kernel
theorem dX12_duel_12 : decode cX12_duel 12 = .ok (.iconst (-1), 1) := by decide +kernel
theorem dX12_duel_13 : decode cX12_duel 13 = .ok (.ireturn, 1) := by decide +kernel
theorem dX12_duel_14 : decode cX12_duel 14 = .ok (.aload_n 0, 1) := by decide +kernel
theorem dX12_duel_15 : decode cX12_duel 15 = .ok (.getfield 9, 3) := by decide +kernel
theorem dX12_duel_18 : decode cX12_duel 18 = .ok (.bipush 24, 2) := by decide +kernel
theorem dX12_duel_20 : decode cX12_duel 20 = .ok (.iload_n 1, 1) := by decide +kernel
theorem dX12_duel_21 : decode cX12_duel 21 = .ok (.iadd, 1) := by decide +kernel
theorem dX12_duel_22 : decode cX12_duel 22 = .ok (.iaload, 1) := by decide +kernel
theorem dX12_duel_23 : decode cX12_duel 23 = .ok (.istore_n 2, 1) := by decide +kernel
theorem dX12_duel_24 : decode cX12_duel 24 = .ok (.aload_n 0, 1) := by decide +kernel
theorem dX12_duel_25 : decode cX12_duel 25 = .ok (.iload_n 1, 1) := by decide +kernel
theorem dX12_duel_26 : decode cX12_duel 26 = .ok (.iconst 0, 1) := by decide +kernel
theorem dX12_duel_27 : decode cX12_duel 27 = .ok (.iload_n 2, 1) := by decide +kernel
theorem dX12_duel_28 : decode cX12_duel 28 = .ok (.iconst 1, 1) := by decide +kernel
theorem dX12_duel_29 : decode cX12_duel 29 = .ok (.isub, 1) := by decide +kernel
theorem dX12_duel_30 : decode cX12_duel 30 = .ok (.invokevirtual 362, 3) := by decide +kernel
theorem dX12_duel_33 : decode cX12_duel 33 = .ok (.istore_n 3, 1) := by decide +kernel
theorem dX12_duel_34 : decode cX12_duel 34 = .ok (.aload_n 0, 1) := by decide +kernel
theorem dX12_duel_35 : decode cX12_duel 35 = .ok (.iconst 0, 1) := by decide +kernel
theorem dX12_duel_36 : decode cX12_duel 36 = .ok (.putfield 98, 3) := by decide +kernel
theorem dX12_duel_39 : decode cX12_duel 39 = .ok (.iload_n 2, 1) := by decide +kernel
theorem dX12_duel_40 : decode cX12_duel 40 = .ok (.ifCond .le 35, 3) := by decide +kernel
theorem dX12_duel_43 : decode cX12_duel 43 = .ok (.aload_n 0, 1) := by decide +kernel
theorem dX12_duel_44 : decode cX12_duel 44 = .ok (.aload_n 0, 1) := by decide +kernel
theorem dX12_duel_45 : decode cX12_duel 45 = .ok (.getfield 9, 3) := by decide +kernel
theorem dX12_duel_48 : decode cX12_duel 48 = .ok (.bipush 6, 2) := by decide +kernel
theorem dX12_duel_50 : decode cX12_duel 50 = .ok (.iload_n 1, 1) := by decide +kernel
theorem dX12_duel_51 : decode cX12_duel 51 = .ok (.imul, 1) := by decide +kernel
theorem dX12_duel_52 : decode cX12_duel 52 = .ok (.iaload, 1) := by decide +kernel
theorem dX12_duel_53 : decode cX12_duel 53 = .ok (.aload_n 0, 1) := by decide +kernel
theorem dX12_duel_54 : decode cX12_duel 54 = .ok (.iload_n 1, 1) := by decide +kernel
theorem dX12_duel_55 : decode cX12_duel 55 = .ok (.iconst 1, 1) := by decide +kernel
theorem dX12_duel_56 : decode cX12_duel 56 = .ok (.iload_n 2, 1) := by decide +kernel
theorem dX12_duel_57 : decode cX12_duel 57 = .ok (.iconst 1, 1) := by decide +kernel
theorem dX12_duel_58 : decode cX12_duel 58 = .ok (.isub, 1) := by decide +kernel
theorem dX12_duel_59 : decode cX12_duel 59 = .ok (.invokevirtual 362, 3) := by decide +kernel
theorem dX12_duel_62 : decode cX12_duel 62 = .ok (.isub, 1) := by decide +kernel
theorem dX12_duel_63 : decode cX12_duel 63 = .ok (.iload_n 3, 1) := by decide +kernel
theorem dX12_duel_64 : decode cX12_duel 64 = .ok (.if_icmp .ne 7, 3) := by decide +kernel
theorem dX12_duel_67 : decode cX12_duel 67 = .ok (.lconst 0, 1) := by decide +kernel
theorem dX12_duel_68 : decode cX12_duel 68 = .ok (.goto 4, 3) := by decide +kernel
theorem dX12_duel_71 : decode cX12_duel 71 = .ok (.lconst 1, 1) := by decide +kernel
theorem dX12_duel_72 : decode cX12_duel 72 = .ok (.invokevirtual 269, 3) := by decide +kernel
theorem dX12_duel_75 : decode cX12_duel 75 = .ok (.sipush 1000, 3) := by decide +kernel
theorem dX12_duel_78 : decode cX12_duel 78 = .ok (.iload_n 3, 1) := by decide +kernel
theorem dX12_duel_79 : decode cX12_duel 79 = .ok (.iadd, 1) := by decide +kernel
theorem dX12_duel_80 : decode cX12_duel 80 = .ok (.ireturn, 1) := by decide +kernel
theorem dX12_law_0 : decode cX12_law 0 = .ok (.aload_n 0, 1) := by decide +kernel
theorem dX12_law_1 : decode cX12_law 1 = .ok (.iconst 0, 1) := by decide +kernel
theorem dX12_law_2 : decode cX12_law 2 = .ok (.putfield 94, 3) := by decide +kernel
theorem dX12_law_5 : decode cX12_law 5 = .ok (.aload_n 0, 1) := by decide +kernel
theorem dX12_law_6 : decode cX12_law 6 = .ok (.getfield 109, 3) := by decide +kernel
theorem dX12_law_9 : decode cX12_law 9 = .ok (.istore_n 1, 1) := by decide +kernel
theorem dX12_law_10 : decode cX12_law 10 = .ok (.aload_n 0, 1) := by decide +kernel
theorem dX12_law_11 : decode cX12_law 11 = .ok (.invokevirtual 195, 3) := by decide +kernel
theorem dX12_law_14 : decode cX12_law 14 = .ok (.ifCond .ne 12, 3) := by decide +kernel
theorem dX12_law_17 : decode cX12_law 17 = .ok (.sipush (-10000), 3) := by decide +kernel
theorem dX12_law_20 : decode cX12_law 20 = .ok (.aload_n 0, 1) := by decide +kernel
theorem dX12_law_21 : decode cX12_law 21 = .ok (.getfield 124, 3) := by decide +kernel
theorem dX12_law_24 : decode cX12_law 24 = .ok (.isub, 1) := by decide +kernel
theorem dX12_law_25 : decode cX12_law 25 = .ok (.ireturn, 1) := by decide +kernel
theorem dX12_law_26 : decode cX12_law 26 = .ok (.aload_n 0, 1) := by decide +kernel
theorem dX12_law_27 : decode cX12_law 27 = .ok (.getfield 24, 3) := by decide +kernel
theorem dX12_law_30 : decode cX12_law 30 = .ok (.astore_n 2, 1) := by decide +kernel
theorem dX12_law_31 : decode cX12_law 31 = .ok (.aload_n 0, 1) := by decide +kernel
theorem dX12_law_32 : decode cX12_law 32 = .ok (.getfield 198, 3) := by decide +kernel
theorem dX12_law_35 : decode cX12_law 35 = .ok (.istore_n 3, 1) := by decide +kernel
theorem dX12_law_36 : decode cX12_law 36 = .ok (.aload_n 0, 1) := by decide +kernel
theorem dX12_law_37 : decode cX12_law 37 = .ok (.aload_n 0, 1) := by decide +kernel
theorem dX12_law_38 : decode cX12_law 38 = .ok (.getfield 27, 3) := by decide +kernel
theorem dX12_law_41 : decode cX12_law 41 = .ok (.putfield 24, 3) := by decide +kernel
theorem dX12_law_44 : decode cX12_law 44 = .ok (.aload_n 0, 1) := by decide +kernel
theorem dX12_law_45 : decode cX12_law 45 = .ok (.iload_n 1, 1) := by decide +kernel
theorem dX12_law_46 : decode cX12_law 46 = .ok (.putfield 198, 3) := by decide +kernel
theorem dX12_law_49 : decode cX12_law 49 = .ok (.iconst 0, 1) := by decide +kernel
theorem dX12_law_50 : decode cX12_law 50 = .ok (.istore 4, 2) := by decide +kernel
theorem dX12_law_52 : decode cX12_law 52 = .ok (.iload 4, 2) := by decide +kernel
theorem dX12_law_54 : decode cX12_law 54 = .ok (.iload_n 1, 1) := by decide +kernel
theorem dX12_law_55 : decode cX12_law 55 = .ok (.if_icmp .ge 23, 3) := by decide +kernel
theorem dX12_law_58 : decode cX12_law 58 = .ok (.aload_n 0, 1) := by decide +kernel
theorem dX12_law_59 : decode cX12_law 59 = .ok (.getfield 24, 3) := by decide +kernel
theorem dX12_law_62 : decode cX12_law 62 = .ok (.iload 4, 2) := by decide +kernel
theorem dX12_law_64 : decode cX12_law 64 = .ok (.aload_n 0, 1) := by decide +kernel
theorem dX12_law_65 : decode cX12_law 65 = .ok (.getfield 13, 3) := by decide +kernel
theorem dX12_law_68 : decode cX12_law 68 = .ok (.iload 4, 2) := by decide +kernel
theorem dX12_law_70 : decode cX12_law 70 = .ok (.baload, 1) := by decide +kernel
theorem dX12_law_71 : decode cX12_law 71 = .ok (.bastore, 1) := by decide +kernel
theorem dX12_law_72 : decode cX12_law 72 = .ok (.iinc 4 1, 3) := by decide +kernel
theorem dX12_law_75 : decode cX12_law 75 = .ok (.goto (-23), 3) := by decide +kernel
theorem dX12_law_78 : decode cX12_law 78 = .ok (.aload_n 0, 1) := by decide +kernel
theorem dX12_law_79 : decode cX12_law 79 = .ok (.aload_n 0, 1) := by decide +kernel
theorem dX12_law_80 : decode cX12_law 80 = .ok (.getfield 9, 3) := by decide +kernel
theorem dX12_law_83 : decode cX12_law 83 = .ok (.iconst 0, 1) := by decide +kernel
theorem dX12_law_84 : decode cX12_law 84 = .ok (.invokevirtual 327, 3) := by decide +kernel
theorem dX12_law_87 : decode cX12_law 87 = .ok (.pop, 1) := by decide +kernel
theorem dX12_law_88 : decode cX12_law 88 = .ok (.aload_n 0, 1) := by decide +kernel
theorem dX12_law_89 : decode cX12_law 89 = .ok (.aload_n 2, 1) := by decide +kernel
theorem dX12_law_90 : decode cX12_law 90 = .ok (.putfield 24, 3) := by decide +kernel
theorem dX12_law_93 : decode cX12_law 93 = .ok (.aload_n 0, 1) := by decide +kernel
theorem dX12_law_94 : decode cX12_law 94 = .ok (.iload_n 3, 1) := by decide +kernel
theorem dX12_law_95 : decode cX12_law 95 = .ok (.putfield 198, 3) := by decide +kernel
theorem dX12_law_98 : decode cX12_law 98 = .ok (.aload_n 0, 1) := by decide +kernel
theorem dX12_law_99 : decode cX12_law 99 = .ok (.getfield 54, 3) := by decide +kernel
theorem dX12_law_102 : decode cX12_law 102 = .ok (.iconst 0, 1) := by decide +kernel
theorem dX12_law_103 : decode cX12_law 103 = .ok (.iaload, 1) := by decide +kernel
theorem dX12_law_104 : decode cX12_law 104 = .ok (.istore 4, 2) := by decide +kernel
theorem dX12_law_106 : decode cX12_law 106 = .ok (.aload_n 0, 1) := by decide +kernel
theorem dX12_law_107 : decode cX12_law 107 = .ok (.getfield 51, 3) := by decide +kernel
theorem dX12_law_110 : decode cX12_law 110 = .ok (.iload 4, 2) := by decide +kernel
theorem dX12_law_112 : decode cX12_law 112 = .ok (.iaload, 1) := by decide +kernel
theorem dX12_law_113 : decode cX12_law 113 = .ok (.istore 5, 2) := by decide +kernel
theorem dX12_law_115 : decode cX12_law 115 = .ok (.aload_n 0, 1) := by decide +kernel
theorem dX12_law_116 : decode cX12_law 116 = .ok (.aload_n 0, 1) := by decide +kernel
theorem dX12_law_117 : decode cX12_law 117 = .ok (.getfield 9, 3) := by decide +kernel
theorem dX12_law_120 : decode cX12_law 120 = .ok (.iconst 0, 1) := by decide +kernel
theorem dX12_law_121 : decode cX12_law 121 = .ok (.invokevirtual 327, 3) := by decide +kernel
theorem dX12_law_124 : decode cX12_law 124 = .ok (.istore 6, 2) := by decide +kernel
theorem dX12_law_126 : decode cX12_law 126 = .ok (.iconst 1, 1) := by decide +kernel
theorem dX12_law_127 : decode cX12_law 127 = .ok (.istore 7, 2) := by decide +kernel
theorem dX12_law_129 : decode cX12_law 129 = .ok (.iload 7, 2) := by decide +kernel
theorem dX12_law_131 : decode cX12_law 131 = .ok (.iload 6, 2) := by decide +kernel
theorem dX12_law_133 : decode cX12_law 133 = .ok (.if_icmp .gt 53, 3) := by decide +kernel
theorem dX12_law_136 : decode cX12_law 136 = .ok (.aload_n 0, 1) := by decide +kernel
theorem dX12_law_137 : decode cX12_law 137 = .ok (.getfield 54, 3) := by decide +kernel
theorem dX12_law_140 : decode cX12_law 140 = .ok (.iload 7, 2) := by decide +kernel
theorem dX12_law_142 : decode cX12_law 142 = .ok (.iconst 1, 1) := by decide +kernel
theorem dX12_law_143 : decode cX12_law 143 = .ok (.isub, 1) := by decide +kernel
theorem dX12_law_144 : decode cX12_law 144 = .ok (.iaload, 1) := by decide +kernel
theorem dX12_law_145 : decode cX12_law 145 = .ok (.iload 4, 2) := by decide +kernel
theorem dX12_law_147 : decode cX12_law 147 = .ok (.if_icmp .eq 6, 3) := by decide +kernel
theorem dX12_law_150 : decode cX12_law 150 = .ok (.goto 30, 3) := by decide +kernel
theorem dX12_law_153 : decode cX12_law 153 = .ok (.aload_n 0, 1) := by decide +kernel
theorem dX12_law_154 : decode cX12_law 154 = .ok (.iconst 0, 1) := by decide +kernel
theorem dX12_law_155 : decode cX12_law 155 = .ok (.putfield 98, 3) := by decide +kernel
theorem dX12_law_158 : decode cX12_law 158 = .ok (.aload_n 0, 1) := by decide +kernel
theorem dX12_law_159 : decode cX12_law 159 = .ok (.iload 5, 2) := by decide +kernel
theorem dX12_law_161 : decode cX12_law 161 = .ok (.i2l, 1) := by decide +kernel
theorem dX12_law_162 : decode cX12_law 162 = .ok (.invokevirtual 269, 3) := by decide +kernel
theorem dX12_law_165 : decode cX12_law 165 = .ok (.aload_n 0, 1) := by decide +kernel
theorem dX12_law_166 : decode cX12_law 166 = .ok (.aload_n 0, 1) := by decide +kernel
theorem dX12_law_167 : decode cX12_law 167 = .ok (.getfield 51, 3) := by decide +kernel
theorem dX12_law_170 : decode cX12_law 170 = .ok (.iload 4, 2) := by decide +kernel
theorem dX12_law_172 : decode cX12_law 172 = .ok (.iaload, 1) := by decide +kernel
theorem dX12_law_173 : decode cX12_law 173 = .ok (.i2l, 1) := by decide +kernel
theorem dX12_law_174 : decode cX12_law 174 = .ok (.invokevirtual 269, 3) := by decide +kernel
theorem dX12_law_177 : decode cX12_law 177 = .ok (.iload 7, 2) := by decide +kernel
theorem dX12_law_179 : decode cX12_law 179 = .ok (.ireturn, 1) := by decide +kernel
theorem dX12_law_180 : decode cX12_law 180 = .ok (.iinc 7 1, 3) := by decide +kernel
theorem dX12_law_183 : decode cX12_law 183 = .ok (.goto (-54), 3) := by decide +kernel
theorem dX12_law_186 : decode cX12_law 186 = .ok (.iconst (-1), 1) := by decide +kernel
theorem dX12_law_187 : decode cX12_law 187 = .ok (.ireturn, 1) := by decide +kernel
theorem dX12_draw_0 : decode cX12_draw 0 = .ok (.aload_n 0, 1) := by decide +kernel
theorem dX12_draw_1 : decode cX12_draw 1 = .ok (.aload_n 0, 1) := by decide +kernel
theorem dX12_draw_2 : decode cX12_draw 2 = .ok (.getfield 366, 3) := by decide +kernel
theorem dX12_draw_5 : decode cX12_draw 5 = .ok (.ldc_w 369, 3) := by decide +kernel
theorem dX12_draw_8 : decode cX12_draw 8 = .ok (.imul, 1) := by decide +kernel
theorem dX12_draw_9 : decode cX12_draw 9 = .ok (.sipush 12345, 3) := by decide +kernel
theorem dX12_draw_12 : decode cX12_draw 12 = .ok (.iadd, 1) := by decide +kernel
theorem dX12_draw_13 : decode cX12_draw 13 = .ok (.putfield 366, 3) := by decide +kernel
theorem dX12_draw_16 : decode cX12_draw 16 = .ok (.aload_n 0, 1) := by decide +kernel
theorem dX12_draw_17 : decode cX12_draw 17 = .ok (.getfield 366, 3) := by decide +kernel
theorem dX12_draw_20 : decode cX12_draw 20 = .ok (.bipush 16, 2) := by decide +kernel
theorem dX12_draw_22 : decode cX12_draw 22 = .ok (.iushr, 1) := by decide +kernel
theorem dX12_draw_23 : decode cX12_draw 23 = .ok (.iload_n 1, 1) := by decide +kernel
theorem dX12_draw_24 : decode cX12_draw 24 = .ok (.irem, 1) := by decide +kernel
theorem dX12_draw_25 : decode cX12_draw 25 = .ok (.ireturn, 1) := by decide +kernel
theorem dX12_goDrawn_0 : decode cX12_goDrawn 0 = .ok (.aload_n 0, 1) := by decide +kernel
theorem dX12_goDrawn_1 : decode cX12_goDrawn 1 = .ok (.iconst 4, 1) := by decide +kernel
theorem dX12_goDrawn_2 : decode cX12_goDrawn 2 = .ok (.invokevirtual 370, 3) := by decide +kernel
theorem dX12_goDrawn_5 : decode cX12_goDrawn 5 = .ok (.tableswitch 131 0 2 #[27, 57, 87], 27) := by decide +kernel
theorem dX12_goDrawn_32 : decode cX12_goDrawn 32 = .ok (.aload_n 0, 1) := by decide +kernel
theorem dX12_goDrawn_33 : decode cX12_goDrawn 33 = .ok (.iconst 4, 1) := by decide +kernel
theorem dX12_goDrawn_34 : decode cX12_goDrawn 34 = .ok (.invokevirtual 370, 3) := by decide +kernel
theorem dX12_goDrawn_37 : decode cX12_goDrawn 37 = .ok (.istore_n 2, 1) := by decide +kernel
theorem dX12_goDrawn_38 : decode cX12_goDrawn 38 = .ok (.aload_n 0, 1) := by decide +kernel
theorem dX12_goDrawn_39 : decode cX12_goDrawn 39 = .ok (.bipush 100, 2) := by decide +kernel
theorem dX12_goDrawn_41 : decode cX12_goDrawn 41 = .ok (.invokevirtual 370, 3) := by decide +kernel
theorem dX12_goDrawn_44 : decode cX12_goDrawn 44 = .ok (.istore_n 3, 1) := by decide +kernel
theorem dX12_goDrawn_45 : decode cX12_goDrawn 45 = .ok (.aload_n 1, 1) := by decide +kernel
theorem dX12_goDrawn_46 : decode cX12_goDrawn 46 = .ok (.iload_n 2, 1) := by decide +kernel
theorem dX12_goDrawn_47 : decode cX12_goDrawn 47 = .ok (.iload_n 3, 1) := by decide +kernel
theorem dX12_goDrawn_48 : decode cX12_goDrawn 48 = .ok (.invokestatic 235, 3) := by decide +kernel
theorem dX12_goDrawn_51 : decode cX12_goDrawn 51 = .ok (.ifCond .ne 10, 3) := by decide +kernel
theorem dX12_goDrawn_54 : decode cX12_goDrawn 54 = .ok (.aload_n 1, 1) := by decide +kernel
theorem dX12_goDrawn_55 : decode cX12_goDrawn 55 = .ok (.iload_n 2, 1) := by decide +kernel
theorem dX12_goDrawn_56 : decode cX12_goDrawn 56 = .ok (.iload_n 3, 1) := by decide +kernel
theorem dX12_goDrawn_57 : decode cX12_goDrawn 57 = .ok (.invokestatic 169, 3) := by decide +kernel
theorem dX12_goDrawn_60 : decode cX12_goDrawn 60 = .ok (.pop, 1) := by decide +kernel
theorem dX12_goDrawn_61 : decode cX12_goDrawn 61 = .ok (.return_, 1) := by decide +kernel
theorem dX12_goDrawn_62 : decode cX12_goDrawn 62 = .ok (.aload_n 0, 1) := by decide +kernel
theorem dX12_goDrawn_63 : decode cX12_goDrawn 63 = .ok (.iconst 4, 1) := by decide +kernel
theorem dX12_goDrawn_64 : decode cX12_goDrawn 64 = .ok (.invokevirtual 370, 3) := by decide +kernel
theorem dX12_goDrawn_67 : decode cX12_goDrawn 67 = .ok (.istore_n 2, 1) := by decide +kernel
theorem dX12_goDrawn_68 : decode cX12_goDrawn 68 = .ok (.aload_n 0, 1) := by decide +kernel
theorem dX12_goDrawn_69 : decode cX12_goDrawn 69 = .ok (.bipush 6, 2) := by decide +kernel
theorem dX12_goDrawn_71 : decode cX12_goDrawn 71 = .ok (.invokevirtual 370, 3) := by decide +kernel
theorem dX12_goDrawn_74 : decode cX12_goDrawn 74 = .ok (.istore_n 3, 1) := by decide +kernel
theorem dX12_goDrawn_75 : decode cX12_goDrawn 75 = .ok (.aload_n 1, 1) := by decide +kernel
theorem dX12_goDrawn_76 : decode cX12_goDrawn 76 = .ok (.iload_n 2, 1) := by decide +kernel
theorem dX12_goDrawn_77 : decode cX12_goDrawn 77 = .ok (.iload_n 3, 1) := by decide +kernel
theorem dX12_goDrawn_78 : decode cX12_goDrawn 78 = .ok (.invokestatic 238, 3) := by decide +kernel
theorem dX12_goDrawn_81 : decode cX12_goDrawn 81 = .ok (.ifCond .eq 10, 3) := by decide +kernel
theorem dX12_goDrawn_84 : decode cX12_goDrawn 84 = .ok (.aload_n 1, 1) := by decide +kernel
theorem dX12_goDrawn_85 : decode cX12_goDrawn 85 = .ok (.iload_n 2, 1) := by decide +kernel
theorem dX12_goDrawn_86 : decode cX12_goDrawn 86 = .ok (.iload_n 3, 1) := by decide +kernel
theorem dX12_goDrawn_87 : decode cX12_goDrawn 87 = .ok (.invokestatic 242, 3) := by decide +kernel
theorem dX12_goDrawn_90 : decode cX12_goDrawn 90 = .ok (.pop, 1) := by decide +kernel
theorem dX12_goDrawn_91 : decode cX12_goDrawn 91 = .ok (.return_, 1) := by decide +kernel
theorem dX12_goDrawn_92 : decode cX12_goDrawn 92 = .ok (.aload_n 0, 1) := by decide +kernel
theorem dX12_goDrawn_93 : decode cX12_goDrawn 93 = .ok (.bipush 7, 2) := by decide +kernel
theorem dX12_goDrawn_95 : decode cX12_goDrawn 95 = .ok (.invokevirtual 370, 3) := by decide +kernel
theorem dX12_goDrawn_98 : decode cX12_goDrawn 98 = .ok (.istore_n 2, 1) := by decide +kernel
theorem dX12_goDrawn_99 : decode cX12_goDrawn 99 = .ok (.aload_n 0, 1) := by decide +kernel
theorem dX12_goDrawn_100 : decode cX12_goDrawn 100 = .ok (.bipush 7, 2) := by decide +kernel
theorem dX12_goDrawn_102 : decode cX12_goDrawn 102 = .ok (.invokevirtual 370, 3) := by decide +kernel
theorem dX12_goDrawn_105 : decode cX12_goDrawn 105 = .ok (.istore_n 3, 1) := by decide +kernel
theorem dX12_goDrawn_106 : decode cX12_goDrawn 106 = .ok (.aload_n 0, 1) := by decide +kernel
theorem dX12_goDrawn_107 : decode cX12_goDrawn 107 = .ok (.bipush 99, 2) := by decide +kernel
theorem dX12_goDrawn_109 : decode cX12_goDrawn 109 = .ok (.invokevirtual 370, 3) := by decide +kernel
theorem dX12_goDrawn_112 : decode cX12_goDrawn 112 = .ok (.iconst 1, 1) := by decide +kernel
theorem dX12_goDrawn_113 : decode cX12_goDrawn 113 = .ok (.iadd, 1) := by decide +kernel
theorem dX12_goDrawn_114 : decode cX12_goDrawn 114 = .ok (.istore 4, 2) := by decide +kernel
theorem dX12_goDrawn_116 : decode cX12_goDrawn 116 = .ok (.aload_n 1, 1) := by decide +kernel
theorem dX12_goDrawn_117 : decode cX12_goDrawn 117 = .ok (.iload_n 2, 1) := by decide +kernel
theorem dX12_goDrawn_118 : decode cX12_goDrawn 118 = .ok (.iload_n 3, 1) := by decide +kernel
theorem dX12_goDrawn_119 : decode cX12_goDrawn 119 = .ok (.iload 4, 2) := by decide +kernel
theorem dX12_goDrawn_121 : decode cX12_goDrawn 121 = .ok (.invokestatic 245, 3) := by decide +kernel
theorem dX12_goDrawn_124 : decode cX12_goDrawn 124 = .ok (.ifCond .ne 11, 3) := by decide +kernel
theorem dX12_goDrawn_127 : decode cX12_goDrawn 127 = .ok (.aload_n 1, 1) := by decide +kernel
theorem dX12_goDrawn_128 : decode cX12_goDrawn 128 = .ok (.iload_n 2, 1) := by decide +kernel
theorem dX12_goDrawn_129 : decode cX12_goDrawn 129 = .ok (.iload_n 3, 1) := by decide +kernel
theorem dX12_goDrawn_130 : decode cX12_goDrawn 130 = .ok (.iload 4, 2) := by decide +kernel
theorem dX12_goDrawn_132 : decode cX12_goDrawn 132 = .ok (.invokestatic 224, 3) := by decide +kernel
theorem dX12_goDrawn_135 : decode cX12_goDrawn 135 = .ok (.return_, 1) := by decide +kernel
theorem dX12_goDrawn_136 : decode cX12_goDrawn 136 = .ok (.aload_n 0, 1) := by decide +kernel
theorem dX12_goDrawn_137 : decode cX12_goDrawn 137 = .ok (.iconst 5, 1) := by decide +kernel
theorem dX12_goDrawn_138 : decode cX12_goDrawn 138 = .ok (.invokevirtual 370, 3) := by decide +kernel
theorem dX12_goDrawn_141 : decode cX12_goDrawn 141 = .ok (.istore_n 2, 1) := by decide +kernel
theorem dX12_goDrawn_142 : decode cX12_goDrawn 142 = .ok (.aload_n 0, 1) := by decide +kernel
theorem dX12_goDrawn_143 : decode cX12_goDrawn 143 = .ok (.iconst 5, 1) := by decide +kernel
theorem dX12_goDrawn_144 : decode cX12_goDrawn 144 = .ok (.invokevirtual 370, 3) := by decide +kernel
theorem dX12_goDrawn_147 : decode cX12_goDrawn 147 = .ok (.istore_n 3, 1) := by decide +kernel
theorem dX12_goDrawn_148 : decode cX12_goDrawn 148 = .ok (.aload_n 1, 1) := by decide +kernel
theorem dX12_goDrawn_149 : decode cX12_goDrawn 149 = .ok (.bipush 77, 2) := by decide +kernel
theorem dX12_goDrawn_151 : decode cX12_goDrawn 151 = .ok (.iconst 5, 1) := by decide +kernel
theorem dX12_goDrawn_152 : decode cX12_goDrawn 152 = .ok (.iload_n 2, 1) := by decide +kernel
theorem dX12_goDrawn_153 : decode cX12_goDrawn 153 = .ok (.imul, 1) := by decide +kernel
theorem dX12_goDrawn_154 : decode cX12_goDrawn 154 = .ok (.iadd, 1) := by decide +kernel
theorem dX12_goDrawn_155 : decode cX12_goDrawn 155 = .ok (.iload_n 3, 1) := by decide +kernel
theorem dX12_goDrawn_156 : decode cX12_goDrawn 156 = .ok (.iadd, 1) := by decide +kernel
theorem dX12_goDrawn_157 : decode cX12_goDrawn 157 = .ok (.aload_n 0, 1) := by decide +kernel
theorem dX12_goDrawn_158 : decode cX12_goDrawn 158 = .ok (.bipush 100, 2) := by decide +kernel
theorem dX12_goDrawn_160 : decode cX12_goDrawn 160 = .ok (.invokevirtual 370, 3) := by decide +kernel
theorem dX12_goDrawn_163 : decode cX12_goDrawn 163 = .ok (.iastore, 1) := by decide +kernel
theorem dX12_goDrawn_164 : decode cX12_goDrawn 164 = .ok (.return_, 1) := by decide +kernel
theorem dX12_years_0 : decode cX12_years 0 = .ok (.aload_n 0, 1) := by decide +kernel
theorem dX12_years_1 : decode cX12_years 1 = .ok (.iconst 0, 1) := by decide +kernel
theorem dX12_years_2 : decode cX12_years 2 = .ok (.putfield 94, 3) := by decide +kernel
theorem dX12_years_5 : decode cX12_years 5 = .ok (.iload_n 2, 1) := by decide +kernel
theorem dX12_years_6 : decode cX12_years 6 = .ok (.iconst 1, 1) := by decide +kernel
theorem dX12_years_7 : decode cX12_years 7 = .ok (.bipush 40, 2) := by decide +kernel
theorem dX12_years_9 : decode cX12_years 9 = .ok (.invokestatic 101, 3) := by decide +kernel
theorem dX12_years_12 : decode cX12_years 12 = .ok (.ifCond .ne 5, 3) := by decide +kernel
theorem dX12_years_15 : decode cX12_years 15 = .ok (.iconst (-1), 1) := by decide +kernel
theorem dX12_years_16 : decode cX12_years 16 = .ok (.ireturn, 1) := by decide +kernel
theorem dX12_years_17 : decode cX12_years 17 = .ok (.aload_n 0, 1) := by decide +kernel
theorem dX12_years_18 : decode cX12_years 18 = .ok (.iload_n 1, 1) := by decide +kernel
theorem dX12_years_19 : decode cX12_years 19 = .ok (.putfield 366, 3) := by decide +kernel
theorem dX12_years_22 : decode cX12_years 22 = .ok (.aload_n 0, 1) := by decide +kernel
theorem dX12_years_23 : decode cX12_years 23 = .ok (.getfield 9, 3) := by decide +kernel
theorem dX12_years_26 : decode cX12_years 26 = .ok (.aload_n 0, 1) := by decide +kernel
theorem dX12_years_27 : decode cX12_years 27 = .ok (.getfield 39, 3) := by decide +kernel
theorem dX12_years_30 : decode cX12_years 30 = .ok (.iconst 0, 1) := by decide +kernel
theorem dX12_years_31 : decode cX12_years 31 = .ok (.invokestatic 231, 3) := by decide +kernel
theorem dX12_years_34 : decode cX12_years 34 = .ok (.iconst 0, 1) := by decide +kernel
theorem dX12_years_35 : decode cX12_years 35 = .ok (.istore_n 3, 1) := by decide +kernel
theorem dX12_years_36 : decode cX12_years 36 = .ok (.iload_n 3, 1) := by decide +kernel
theorem dX12_years_37 : decode cX12_years 37 = .ok (.iload_n 2, 1) := by decide +kernel
theorem dX12_years_38 : decode cX12_years 38 = .ok (.if_icmp .ge 17, 3) := by decide +kernel
theorem dX12_years_41 : decode cX12_years 41 = .ok (.aload_n 0, 1) := by decide +kernel
theorem dX12_years_42 : decode cX12_years 42 = .ok (.aload_n 0, 1) := by decide +kernel
theorem dX12_years_43 : decode cX12_years 43 = .ok (.getfield 39, 3) := by decide +kernel
theorem dX12_years_46 : decode cX12_years 46 = .ok (.invokevirtual 373, 3) := by decide +kernel
theorem dX12_years_49 : decode cX12_years 49 = .ok (.iinc 3 1, 3) := by decide +kernel
theorem dX12_years_52 : decode cX12_years 52 = .ok (.goto (-16), 3) := by decide +kernel
theorem dX12_years_55 : decode cX12_years 55 = .ok (.aload_n 0, 1) := by decide +kernel
theorem dX12_years_56 : decode cX12_years 56 = .ok (.iconst 0, 1) := by decide +kernel
theorem dX12_years_57 : decode cX12_years 57 = .ok (.putfield 98, 3) := by decide +kernel
theorem dX12_years_60 : decode cX12_years 60 = .ok (.aload_n 0, 1) := by decide +kernel
theorem dX12_years_61 : decode cX12_years 61 = .ok (.aload_n 0, 1) := by decide +kernel
theorem dX12_years_62 : decode cX12_years 62 = .ok (.aload_n 0, 1) := by decide +kernel
theorem dX12_years_63 : decode cX12_years 63 = .ok (.getfield 39, 3) := by decide +kernel
theorem dX12_years_66 : decode cX12_years 66 = .ok (.iconst 1, 1) := by decide +kernel
theorem dX12_years_67 : decode cX12_years 67 = .ok (.invokevirtual 327, 3) := by decide +kernel
theorem dX12_years_70 : decode cX12_years 70 = .ok (.i2l, 1) := by decide +kernel
theorem dX12_years_71 : decode cX12_years 71 = .ok (.invokevirtual 269, 3) := by decide +kernel
theorem dX12_years_74 : decode cX12_years 74 = .ok (.aload_n 0, 1) := by decide +kernel
theorem dX12_years_75 : decode cX12_years 75 = .ok (.aload_n 0, 1) := by decide +kernel
theorem dX12_years_76 : decode cX12_years 76 = .ok (.aload_n 0, 1) := by decide +kernel
theorem dX12_years_77 : decode cX12_years 77 = .ok (.getfield 39, 3) := by decide +kernel
theorem dX12_years_80 : decode cX12_years 80 = .ok (.iconst 4, 1) := by decide +kernel
theorem dX12_years_81 : decode cX12_years 81 = .ok (.invokevirtual 327, 3) := by decide +kernel
theorem dX12_years_84 : decode cX12_years 84 = .ok (.i2l, 1) := by decide +kernel
theorem dX12_years_85 : decode cX12_years 85 = .ok (.invokevirtual 269, 3) := by decide +kernel
theorem dX12_years_88 : decode cX12_years 88 = .ok (.aload_n 0, 1) := by decide +kernel
theorem dX12_years_89 : decode cX12_years 89 = .ok (.aload_n 0, 1) := by decide +kernel
theorem dX12_years_90 : decode cX12_years 90 = .ok (.getfield 39, 3) := by decide +kernel
theorem dX12_years_93 : decode cX12_years 93 = .ok (.iconst 2, 1) := by decide +kernel
theorem dX12_years_94 : decode cX12_years 94 = .ok (.invokevirtual 327, 3) := by decide +kernel
theorem dX12_years_97 : decode cX12_years 97 = .ok (.pop, 1) := by decide +kernel
theorem dX12_years_98 : decode cX12_years 98 = .ok (.aload_n 0, 1) := by decide +kernel
theorem dX12_years_99 : decode cX12_years 99 = .ok (.aload_n 0, 1) := by decide +kernel
theorem dX12_years_100 : decode cX12_years 100 = .ok (.iconst 1, 1) := by decide +kernel
theorem dX12_years_101 : decode cX12_years 101 = .ok (.invokevirtual 333, 3) := by decide +kernel
theorem dX12_years_104 : decode cX12_years 104 = .ok (.i2l, 1) := by decide +kernel
theorem dX12_years_105 : decode cX12_years 105 = .ok (.invokevirtual 269, 3) := by decide +kernel
theorem dX12_years_108 : decode cX12_years 108 = .ok (.aload_n 0, 1) := by decide +kernel
theorem dX12_years_109 : decode cX12_years 109 = .ok (.aload_n 0, 1) := by decide +kernel
theorem dX12_years_110 : decode cX12_years 110 = .ok (.getfield 39, 3) := by decide +kernel
theorem dX12_years_113 : decode cX12_years 113 = .ok (.iconst 0, 1) := by decide +kernel
theorem dX12_years_114 : decode cX12_years 114 = .ok (.invokevirtual 327, 3) := by decide +kernel
theorem dX12_years_117 : decode cX12_years 117 = .ok (.ireturn, 1) := by decide +kernel
theorem dX12_keep_0 : decode cX12_keep 0 = .ok (.aload_n 0, 1) := by decide +kernel
theorem dX12_keep_1 : decode cX12_keep 1 = .ok (.iconst 0, 1) := by decide +kernel
theorem dX12_keep_2 : decode cX12_keep 2 = .ok (.putfield 94, 3) := by decide +kernel
theorem dX12_keep_5 : decode cX12_keep 5 = .ok (.iload_n 1, 1) := by decide +kernel
theorem dX12_keep_6 : decode cX12_keep 6 = .ok (.iconst 0, 1) := by decide +kernel
theorem dX12_keep_7 : decode cX12_keep 7 = .ok (.iconst 1, 1) := by decide +kernel
theorem dX12_keep_8 : decode cX12_keep 8 = .ok (.invokestatic 101, 3) := by decide +kernel
theorem dX12_keep_11 : decode cX12_keep 11 = .ok (.ifCond .ne 5, 3) := by decide +kernel
theorem dX12_keep_14 : decode cX12_keep 14 = .ok (.iconst 0, 1) := by decide +kernel
theorem dX12_keep_15 : decode cX12_keep 15 = .ok (.ireturn, 1) := by decide +kernel
theorem dX12_keep_16 : decode cX12_keep 16 = .ok (.aload_n 0, 1) := by decide +kernel
theorem dX12_keep_17 : decode cX12_keep 17 = .ok (.getfield 91, 3) := by decide +kernel
theorem dX12_keep_20 : decode cX12_keep 20 = .ok (.iload_n 1, 1) := by decide +kernel
theorem dX12_keep_21 : decode cX12_keep 21 = .ok (.iconst 1, 1) := by decide +kernel
theorem dX12_keep_22 : decode cX12_keep 22 = .ok (.bastore, 1) := by decide +kernel
theorem dX12_keep_23 : decode cX12_keep 23 = .ok (.aload_n 0, 1) := by decide +kernel
theorem dX12_keep_24 : decode cX12_keep 24 = .ok (.getfield 9, 3) := by decide +kernel
theorem dX12_keep_27 : decode cX12_keep 27 = .ok (.aload_n 0, 1) := by decide +kernel
theorem dX12_keep_28 : decode cX12_keep 28 = .ok (.getfield 88, 3) := by decide +kernel
theorem dX12_keep_31 : decode cX12_keep 31 = .ok (.bipush 106, 2) := by decide +kernel
theorem dX12_keep_33 : decode cX12_keep 33 = .ok (.iload_n 1, 1) := by decide +kernel
theorem dX12_keep_34 : decode cX12_keep 34 = .ok (.imul, 1) := by decide +kernel
theorem dX12_keep_35 : decode cX12_keep 35 = .ok (.invokestatic 231, 3) := by decide +kernel
theorem dX12_keep_38 : decode cX12_keep 38 = .ok (.iconst 1, 1) := by decide +kernel
theorem dX12_keep_39 : decode cX12_keep 39 = .ok (.ireturn, 1) := by decide +kernel
theorem dX12_again_0 : decode cX12_again 0 = .ok (.aload_n 0, 1) := by decide +kernel
theorem dX12_again_1 : decode cX12_again 1 = .ok (.iconst 0, 1) := by decide +kernel
theorem dX12_again_2 : decode cX12_again 2 = .ok (.putfield 94, 3) := by decide +kernel
theorem dX12_again_5 : decode cX12_again 5 = .ok (.iload_n 1, 1) := by decide +kernel
theorem dX12_again_6 : decode cX12_again 6 = .ok (.iconst 0, 1) := by decide +kernel
theorem dX12_again_7 : decode cX12_again 7 = .ok (.iconst 1, 1) := by decide +kernel
theorem dX12_again_8 : decode cX12_again 8 = .ok (.invokestatic 101, 3) := by decide +kernel
theorem dX12_again_11 : decode cX12_again 11 = .ok (.ifCond .eq 12, 3) := by decide +kernel
theorem dX12_again_14 : decode cX12_again 14 = .ok (.aload_n 0, 1) := by decide +kernel
theorem dX12_again_15 : decode cX12_again 15 = .ok (.getfield 91, 3) := by decide +kernel
theorem dX12_again_18 : decode cX12_again 18 = .ok (.iload_n 1, 1) := by decide +kernel
theorem dX12_again_19 : decode cX12_again 19 = .ok (.baload, 1) := by decide +kernel
theorem dX12_again_20 : decode cX12_again 20 = .ok (.ifCond .ne 5, 3) := by decide +kernel
theorem dX12_again_23 : decode cX12_again 23 = .ok (.iconst 0, 1) := by decide +kernel
theorem dX12_again_24 : decode cX12_again 24 = .ok (.ireturn, 1) := by decide +kernel
theorem dX12_again_25 : decode cX12_again 25 = .ok (.iconst 0, 1) := by decide +kernel
theorem dX12_again_26 : decode cX12_again 26 = .ok (.istore_n 2, 1) := by decide +kernel
theorem dX12_again_27 : decode cX12_again 27 = .ok (.iload_n 2, 1) := by decide +kernel
theorem dX12_again_28 : decode cX12_again 28 = .ok (.bipush 106, 2) := by decide +kernel
theorem dX12_again_30 : decode cX12_again 30 = .ok (.if_icmp .ge 26, 3) := by decide +kernel
theorem dX12_again_33 : decode cX12_again 33 = .ok (.aload_n 0, 1) := by decide +kernel
theorem dX12_again_34 : decode cX12_again 34 = .ok (.getfield 9, 3) := by decide +kernel
theorem dX12_again_37 : decode cX12_again 37 = .ok (.iload_n 2, 1) := by decide +kernel
theorem dX12_again_38 : decode cX12_again 38 = .ok (.aload_n 0, 1) := by decide +kernel
theorem dX12_again_39 : decode cX12_again 39 = .ok (.getfield 88, 3) := by decide +kernel
theorem dX12_again_42 : decode cX12_again 42 = .ok (.bipush 106, 2) := by decide +kernel
theorem dX12_again_44 : decode cX12_again 44 = .ok (.iload_n 1, 1) := by decide +kernel
theorem dX12_again_45 : decode cX12_again 45 = .ok (.imul, 1) := by decide +kernel
theorem dX12_again_46 : decode cX12_again 46 = .ok (.iload_n 2, 1) := by decide +kernel
theorem dX12_again_47 : decode cX12_again 47 = .ok (.iadd, 1) := by decide +kernel
theorem dX12_again_48 : decode cX12_again 48 = .ok (.iaload, 1) := by decide +kernel
theorem dX12_again_49 : decode cX12_again 49 = .ok (.iastore, 1) := by decide +kernel
theorem dX12_again_50 : decode cX12_again 50 = .ok (.iinc 2 1, 3) := by decide +kernel
theorem dX12_again_53 : decode cX12_again 53 = .ok (.goto (-26), 3) := by decide +kernel
theorem dX12_again_56 : decode cX12_again 56 = .ok (.aload_n 0, 1) := by decide +kernel
theorem dX12_again_57 : decode cX12_again 57 = .ok (.iconst 0, 1) := by decide +kernel
theorem dX12_again_58 : decode cX12_again 58 = .ok (.putfield 228, 3) := by decide +kernel
theorem dX12_again_61 : decode cX12_again 61 = .ok (.aload_n 0, 1) := by decide +kernel
theorem dX12_again_62 : decode cX12_again 62 = .ok (.dup, 1) := by decide +kernel
theorem dX12_again_63 : decode cX12_again 63 = .ok (.getfield 201, 3) := by decide +kernel
theorem dX12_again_66 : decode cX12_again 66 = .ok (.iconst 1, 1) := by decide +kernel
theorem dX12_again_67 : decode cX12_again 67 = .ok (.iadd, 1) := by decide +kernel
theorem dX12_again_68 : decode cX12_again 68 = .ok (.putfield 201, 3) := by decide +kernel
theorem dX12_again_71 : decode cX12_again 71 = .ok (.iconst 1, 1) := by decide +kernel
theorem dX12_again_72 : decode cX12_again 72 = .ok (.ireturn, 1) := by decide +kernel
theorem dX12_numbersOf_0 : decode cX12_numbersOf 0 = .ok (.iconst 0, 1) := by decide +kernel
theorem dX12_numbersOf_1 : decode cX12_numbersOf 1 = .ok (.istore_n 1, 1) := by decide +kernel
theorem dX12_numbersOf_2 : decode cX12_numbersOf 2 = .ok (.iconst 0, 1) := by decide +kernel
theorem dX12_numbersOf_3 : decode cX12_numbersOf 3 = .ok (.istore_n 2, 1) := by decide +kernel
theorem dX12_numbersOf_4 : decode cX12_numbersOf 4 = .ok (.iload_n 2, 1) := by decide +kernel
theorem dX12_numbersOf_5 : decode cX12_numbersOf 5 = .ok (.iconst 4, 1) := by decide +kernel
theorem dX12_numbersOf_6 : decode cX12_numbersOf 6 = .ok (.if_icmp .ge 21, 3) := by decide +kernel
theorem dX12_numbersOf_9 : decode cX12_numbersOf 9 = .ok (.iload_n 1, 1) := by decide +kernel
theorem dX12_numbersOf_10 : decode cX12_numbersOf 10 = .ok (.aload_n 0, 1) := by decide +kernel
theorem dX12_numbersOf_11 : decode cX12_numbersOf 11 = .ok (.getfield 9, 3) := by decide +kernel
theorem dX12_numbersOf_14 : decode cX12_numbersOf 14 = .ok (.bipush 24, 2) := by decide +kernel
theorem dX12_numbersOf_16 : decode cX12_numbersOf 16 = .ok (.iload_n 2, 1) := by decide +kernel
theorem dX12_numbersOf_17 : decode cX12_numbersOf 17 = .ok (.iadd, 1) := by decide +kernel
theorem dX12_numbersOf_18 : decode cX12_numbersOf 18 = .ok (.iaload, 1) := by decide +kernel
theorem dX12_numbersOf_19 : decode cX12_numbersOf 19 = .ok (.iadd, 1) := by decide +kernel
theorem dX12_numbersOf_20 : decode cX12_numbersOf 20 = .ok (.istore_n 1, 1) := by decide +kernel
theorem dX12_numbersOf_21 : decode cX12_numbersOf 21 = .ok (.iinc 2 1, 3) := by decide +kernel
theorem dX12_numbersOf_24 : decode cX12_numbersOf 24 = .ok (.goto (-20), 3) := by decide +kernel
theorem dX12_numbersOf_27 : decode cX12_numbersOf 27 = .ok (.iload_n 1, 1) := by decide +kernel
theorem dX12_numbersOf_28 : decode cX12_numbersOf 28 = .ok (.ireturn, 1) := by decide +kernel
theorem dX12_count_0 : decode cX12_count 0 = .ok (.aload_n 0, 1) := by decide +kernel
theorem dX12_count_1 : decode cX12_count 1 = .ok (.iconst 0, 1) := by decide +kernel
theorem dX12_count_2 : decode cX12_count 2 = .ok (.putfield 94, 3) := by decide +kernel
theorem dX12_count_5 : decode cX12_count 5 = .ok (.iload_n 1, 1) := by decide +kernel
theorem dX12_count_6 : decode cX12_count 6 = .ok (.tableswitch 119 0 9 #[54, 59, 67, 75, 83, 91, 96, 101, 106, 111], 54) := by decide +kernel
theorem dX12_count_60 : decode cX12_count 60 = .ok (.aload_n 0, 1) := by decide +kernel
theorem dX12_count_61 : decode cX12_count 61 = .ok (.invokevirtual 376, 3) := by decide +kernel
theorem dX12_count_64 : decode cX12_count 64 = .ok (.ireturn, 1) := by decide +kernel
theorem dX12_count_65 : decode cX12_count 65 = .ok (.aload_n 0, 1) := by decide +kernel
theorem dX12_count_66 : decode cX12_count 66 = .ok (.getfield 9, 3) := by decide +kernel
theorem dX12_count_69 : decode cX12_count 69 = .ok (.invokestatic 216, 3) := by decide +kernel
theorem dX12_count_72 : decode cX12_count 72 = .ok (.ireturn, 1) := by decide +kernel
theorem dX12_count_73 : decode cX12_count 73 = .ok (.aload_n 0, 1) := by decide +kernel
theorem dX12_count_74 : decode cX12_count 74 = .ok (.getfield 9, 3) := by decide +kernel
theorem dX12_count_77 : decode cX12_count 77 = .ok (.bipush 102, 2) := by decide +kernel
theorem dX12_count_79 : decode cX12_count 79 = .ok (.iaload, 1) := by decide +kernel
theorem dX12_count_80 : decode cX12_count 80 = .ok (.ireturn, 1) := by decide +kernel
theorem dX12_count_81 : decode cX12_count 81 = .ok (.aload_n 0, 1) := by decide +kernel
theorem dX12_count_82 : decode cX12_count 82 = .ok (.getfield 9, 3) := by decide +kernel
theorem dX12_count_85 : decode cX12_count 85 = .ok (.bipush 105, 2) := by decide +kernel
theorem dX12_count_87 : decode cX12_count 87 = .ok (.iaload, 1) := by decide +kernel
theorem dX12_count_88 : decode cX12_count 88 = .ok (.ireturn, 1) := by decide +kernel
theorem dX12_count_89 : decode cX12_count 89 = .ok (.aload_n 0, 1) := by decide +kernel
theorem dX12_count_90 : decode cX12_count 90 = .ok (.getfield 9, 3) := by decide +kernel
theorem dX12_count_93 : decode cX12_count 93 = .ok (.invokestatic 259, 3) := by decide +kernel
theorem dX12_count_96 : decode cX12_count 96 = .ok (.ireturn, 1) := by decide +kernel
theorem dX12_count_97 : decode cX12_count 97 = .ok (.aload_n 0, 1) := by decide +kernel
theorem dX12_count_98 : decode cX12_count 98 = .ok (.getfield 348, 3) := by decide +kernel
theorem dX12_count_101 : decode cX12_count 101 = .ok (.ireturn, 1) := by decide +kernel
theorem dX12_count_102 : decode cX12_count 102 = .ok (.aload_n 0, 1) := by decide +kernel
theorem dX12_count_103 : decode cX12_count 103 = .ok (.getfield 228, 3) := by decide +kernel
theorem dX12_count_106 : decode cX12_count 106 = .ok (.ireturn, 1) := by decide +kernel
theorem dX12_count_107 : decode cX12_count 107 = .ok (.aload_n 0, 1) := by decide +kernel
theorem dX12_count_108 : decode cX12_count 108 = .ok (.getfield 98, 3) := by decide +kernel
theorem dX12_count_111 : decode cX12_count 111 = .ok (.ireturn, 1) := by decide +kernel
theorem dX12_count_112 : decode cX12_count 112 = .ok (.aload_n 0, 1) := by decide +kernel
theorem dX12_count_113 : decode cX12_count 113 = .ok (.getfield 109, 3) := by decide +kernel
theorem dX12_count_116 : decode cX12_count 116 = .ok (.ireturn, 1) := by decide +kernel
theorem dX12_count_117 : decode cX12_count 117 = .ok (.aload_n 0, 1) := by decide +kernel
theorem dX12_count_118 : decode cX12_count 118 = .ok (.getfield 9, 3) := by decide +kernel
theorem dX12_count_121 : decode cX12_count 121 = .ok (.invokestatic 312, 3) := by decide +kernel
theorem dX12_count_124 : decode cX12_count 124 = .ok (.ireturn, 1) := by decide +kernel
theorem dX12_count_125 : decode cX12_count 125 = .ok (.iconst (-1), 1) := by decide +kernel
theorem dX12_count_126 : decode cX12_count 126 = .ok (.ireturn, 1) := by decide +kernel
theorem dX12_row_0 : decode cX12_row 0 = .ok (.aload_n 0, 1) := by decide +kernel
theorem dX12_row_1 : decode cX12_row 1 = .ok (.iconst 0, 1) := by decide +kernel
theorem dX12_row_2 : decode cX12_row 2 = .ok (.putfield 94, 3) := by decide +kernel
theorem dX12_row_5 : decode cX12_row 5 = .ok (.iload_n 1, 1) := by decide +kernel
theorem dX12_row_6 : decode cX12_row 6 = .ok (.iconst 0, 1) := by decide +kernel
theorem dX12_row_7 : decode cX12_row 7 = .ok (.aload_n 0, 1) := by decide +kernel
theorem dX12_row_8 : decode cX12_row 8 = .ok (.getfield 98, 3) := by decide +kernel
theorem dX12_row_11 : decode cX12_row 11 = .ok (.iconst 1, 1) := by decide +kernel
theorem dX12_row_12 : decode cX12_row 12 = .ok (.isub, 1) := by decide +kernel
theorem dX12_row_13 : decode cX12_row 13 = .ok (.invokestatic 101, 3) := by decide +kernel
theorem dX12_row_16 : decode cX12_row 16 = .ok (.ifCond .eq 12, 3) := by decide +kernel
theorem dX12_row_19 : decode cX12_row 19 = .ok (.aload_n 0, 1) := by decide +kernel
theorem dX12_row_20 : decode cX12_row 20 = .ok (.getfield 17, 3) := by decide +kernel
theorem dX12_row_23 : decode cX12_row 23 = .ok (.iload_n 1, 1) := by decide +kernel
theorem dX12_row_24 : decode cX12_row 24 = .ok (.laload, 1) := by decide +kernel
theorem dX12_row_25 : decode cX12_row 25 = .ok (.goto 8, 3) := by decide +kernel
theorem dX12_row_28 : decode cX12_row 28 = .ok (.aload_n 0, 1) := by decide +kernel
theorem dX12_row_29 : decode cX12_row 29 = .ok (.invokevirtual 213, 3) := by decide +kernel
theorem dX12_row_32 : decode cX12_row 32 = .ok (.i2l, 1) := by decide +kernel
theorem dX12_row_33 : decode cX12_row 33 = .ok (.lreturn, 1) := by decide +kernel
