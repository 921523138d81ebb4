theorem dX1_init_0 : decode cX1_init 0 = .ok (.aload_n 0, 1) := by decide +kernel
theorem dX1_init_1 : decode cX1_init 1 = .ok (.invokespecial 3, 3) := by decide +kernel
theorem dX1_init_4 : decode cX1_init 4 = .ok (.aload_n 0, 1) := by decide +kernel
theorem dX1_init_5 : decode cX1_init 5 = .ok (.bipush 10, 2) := by decide +kernel
theorem dX1_init_7 : decode cX1_init 7 = .ok (.newarray .int, 2) := by decide +kernel
theorem dX1_init_9 : decode cX1_init 9 = .ok (.putfield 9, 3) := by decide +kernel
theorem dX1_init_12 : decode cX1_init 12 = .ok (.aload_n 0, 1) := by decide +kernel
theorem dX1_init_13 : decode cX1_init 13 = .ok (.bipush 10, 2) := by decide +kernel
theorem dX1_init_15 : decode cX1_init 15 = .ok (.newarray .int, 2) := by decide +kernel
theorem dX1_init_17 : decode cX1_init 17 = .ok (.putfield 15, 3) := by decide +kernel
theorem dX1_init_20 : decode cX1_init 20 = .ok (.aload_n 0, 1) := by decide +kernel
theorem dX1_init_21 : decode cX1_init 21 = .ok (.iconst 5, 1) := by decide +kernel
theorem dX1_init_22 : decode cX1_init 22 = .ok (.bipush 31, 2) := by decide +kernel
theorem dX1_init_24 : decode cX1_init 24 = .ok (.multianewarray 18 2, 4) := by decide +kernel
theorem dX1_init_28 : decode cX1_init 28 = .ok (.putfield 20, 3) := by decide +kernel
theorem dX1_init_31 : decode cX1_init 31 = .ok (.return_, 1) := by decide +kernel
theorem dX1_size_0 : decode cX1_size 0 = .ok (.aload_n 0, 1) := by decide +kernel
theorem dX1_size_1 : decode cX1_size 1 = .ok (.getfield 23, 3) := by decide +kernel
theorem dX1_size_4 : decode cX1_size 4 = .ok (.ireturn, 1) := by decide +kernel
theorem dX1_clear_0 : decode cX1_clear 0 = .ok (.aload_n 0, 1) := by decide +kernel
theorem dX1_clear_1 : decode cX1_clear 1 = .ok (.iconst 0, 1) := by decide +kernel
theorem dX1_clear_2 : decode cX1_clear 2 = .ok (.putfield 23, 3) := by decide +kernel
theorem dX1_clear_5 : decode cX1_clear 5 = .ok (.return_, 1) := by decide +kernel
theorem dX1_add_0 : decode cX1_add 0 = .ok (.iload_n 1, 1) := by decide +kernel
theorem dX1_add_1 : decode cX1_add 1 = .ok (.ifCond .lt 30, 3) := by decide +kernel
theorem dX1_add_4 : decode cX1_add 4 = .ok (.iload_n 1, 1) := by decide +kernel
theorem dX1_add_5 : decode cX1_add 5 = .ok (.iconst 5, 1) := by decide +kernel
theorem dX1_add_6 : decode cX1_add 6 = .ok (.if_icmp .ge 25, 3) := by decide +kernel
theorem dX1_add_9 : decode cX1_add 9 = .ok (.iload_n 2, 1) := by decide +kernel
theorem dX1_add_10 : decode cX1_add 10 = .ok (.ifCond .lt 21, 3) := by decide +kernel
theorem dX1_add_13 : decode cX1_add 13 = .ok (.iload_n 2, 1) := by decide +kernel
theorem dX1_add_14 : decode cX1_add 14 = .ok (.getstatic 27, 3) := by decide +kernel
theorem dX1_add_17 : decode cX1_add 17 = .ok (.iload_n 1, 1) := by decide +kernel
theorem dX1_add_18 : decode cX1_add 18 = .ok (.iaload, 1) := by decide +kernel
theorem dX1_add_19 : decode cX1_add 19 = .ok (.if_icmp .gt 12, 3) := by decide +kernel
theorem dX1_add_22 : decode cX1_add 22 = .ok (.aload_n 0, 1) := by decide +kernel
theorem dX1_add_23 : decode cX1_add 23 = .ok (.getfield 23, 3) := by decide +kernel
theorem dX1_add_26 : decode cX1_add 26 = .ok (.bipush 10, 2) := by decide +kernel
theorem dX1_add_28 : decode cX1_add 28 = .ok (.if_icmp .lt 5, 3) := by decide +kernel
theorem dX1_add_31 : decode cX1_add 31 = .ok (.iconst 0, 1) := by decide +kernel
theorem dX1_add_32 : decode cX1_add 32 = .ok (.ireturn, 1) := by decide +kernel
theorem dX1_add_33 : decode cX1_add 33 = .ok (.aload_n 0, 1) := by decide +kernel
theorem dX1_add_34 : decode cX1_add 34 = .ok (.getfield 9, 3) := by decide +kernel
theorem dX1_add_37 : decode cX1_add 37 = .ok (.aload_n 0, 1) := by decide +kernel
theorem dX1_add_38 : decode cX1_add 38 = .ok (.getfield 23, 3) := by decide +kernel
theorem dX1_add_41 : decode cX1_add 41 = .ok (.iload_n 1, 1) := by decide +kernel
theorem dX1_add_42 : decode cX1_add 42 = .ok (.iastore, 1) := by decide +kernel
theorem dX1_add_43 : decode cX1_add 43 = .ok (.aload_n 0, 1) := by decide +kernel
theorem dX1_add_44 : decode cX1_add 44 = .ok (.getfield 15, 3) := by decide +kernel
theorem dX1_add_47 : decode cX1_add 47 = .ok (.aload_n 0, 1) := by decide +kernel
theorem dX1_add_48 : decode cX1_add 48 = .ok (.getfield 23, 3) := by decide +kernel
theorem dX1_add_51 : decode cX1_add 51 = .ok (.iload_n 2, 1) := by decide +kernel
theorem dX1_add_52 : decode cX1_add 52 = .ok (.iastore, 1) := by decide +kernel
theorem dX1_add_53 : decode cX1_add 53 = .ok (.aload_n 0, 1) := by decide +kernel
theorem dX1_add_54 : decode cX1_add 54 = .ok (.dup, 1) := by decide +kernel
theorem dX1_add_55 : decode cX1_add 55 = .ok (.getfield 23, 3) := by decide +kernel
theorem dX1_add_58 : decode cX1_add 58 = .ok (.iconst 1, 1) := by decide +kernel
theorem dX1_add_59 : decode cX1_add 59 = .ok (.iadd, 1) := by decide +kernel
theorem dX1_add_60 : decode cX1_add 60 = .ok (.putfield 23, 3) := by decide +kernel
theorem dX1_add_63 : decode cX1_add 63 = .ok (.iconst 1, 1) := by decide +kernel
theorem dX1_add_64 : decode cX1_add 64 = .ok (.ireturn, 1) := by decide +kernel
theorem dX1_allow_0 : decode cX1_allow 0 = .ok (.iconst 0, 1) := by decide +kernel
theorem dX1_allow_1 : decode cX1_allow 1 = .ok (.istore 4, 2) := by decide +kernel
theorem dX1_allow_3 : decode cX1_allow 3 = .ok (.iload 4, 2) := by decide +kernel
theorem dX1_allow_5 : decode cX1_allow 5 = .ok (.aload_n 0, 1) := by decide +kernel
theorem dX1_allow_6 : decode cX1_allow 6 = .ok (.getfield 23, 3) := by decide +kernel
theorem dX1_allow_9 : decode cX1_allow 9 = .ok (.if_icmp .ge 33, 3) := by decide +kernel
theorem dX1_allow_12 : decode cX1_allow 12 = .ok (.aload_n 0, 1) := by decide +kernel
theorem dX1_allow_13 : decode cX1_allow 13 = .ok (.getfield 9, 3) := by decide +kernel
theorem dX1_allow_16 : decode cX1_allow 16 = .ok (.iload 4, 2) := by decide +kernel
theorem dX1_allow_18 : decode cX1_allow 18 = .ok (.iaload, 1) := by decide +kernel
theorem dX1_allow_19 : decode cX1_allow 19 = .ok (.aload_n 0, 1) := by decide +kernel
theorem dX1_allow_20 : decode cX1_allow 20 = .ok (.getfield 15, 3) := by decide +kernel
theorem dX1_allow_23 : decode cX1_allow 23 = .ok (.iload 4, 2) := by decide +kernel
theorem dX1_allow_25 : decode cX1_allow 25 = .ok (.iaload, 1) := by decide +kernel
theorem dX1_allow_26 : decode cX1_allow 26 = .ok (.iload_n 1, 1) := by decide +kernel
theorem dX1_allow_27 : decode cX1_allow 27 = .ok (.lload_n 2, 1) := by decide +kernel
theorem dX1_allow_28 : decode cX1_allow 28 = .ok (.invokestatic 30, 3) := by decide +kernel
theorem dX1_allow_31 : decode cX1_allow 31 = .ok (.ifCond .ne 5, 3) := by decide +kernel
theorem dX1_allow_34 : decode cX1_allow 34 = .ok (.iconst 0, 1) := by decide +kernel
theorem dX1_allow_35 : decode cX1_allow 35 = .ok (.ireturn, 1) := by decide +kernel
theorem dX1_allow_36 : decode cX1_allow 36 = .ok (.iinc 4 1, 3) := by decide +kernel
theorem dX1_allow_39 : decode cX1_allow 39 = .ok (.goto (-36), 3) := by decide +kernel
theorem dX1_allow_42 : decode cX1_allow 42 = .ok (.iconst 1, 1) := by decide +kernel
theorem dX1_allow_43 : decode cX1_allow 43 = .ok (.ireturn, 1) := by decide +kernel
theorem dX1_isSo_0 : decode cX1_isSo 0 = .ok (.iload_n 0, 1) := by decide +kernel
theorem dX1_isSo_1 : decode cX1_isSo 1 = .ok (.tableswitch 88 0 3 #[31, 45, 60, 74], 31) := by decide +kernel
theorem dX1_isSo_32 : decode cX1_isSo 32 = .ok (.iload_n 2, 1) := by decide +kernel
theorem dX1_isSo_33 : decode cX1_isSo 33 = .ok (.bipush 10, 2) := by decide +kernel
theorem dX1_isSo_35 : decode cX1_isSo 35 = .ok (.iload_n 1, 1) := by decide +kernel
theorem dX1_isSo_36 : decode cX1_isSo 36 = .ok (.imul, 1) := by decide +kernel
theorem dX1_isSo_37 : decode cX1_isSo 37 = .ok (.if_icmp .lt 7, 3) := by decide +kernel
theorem dX1_isSo_40 : decode cX1_isSo 40 = .ok (.iconst 1, 1) := by decide +kernel
theorem dX1_isSo_41 : decode cX1_isSo 41 = .ok (.goto 4, 3) := by decide +kernel
theorem dX1_isSo_44 : decode cX1_isSo 44 = .ok (.iconst 0, 1) := by decide +kernel
theorem dX1_isSo_45 : decode cX1_isSo 45 = .ok (.ireturn, 1) := by decide +kernel
theorem dX1_isSo_46 : decode cX1_isSo 46 = .ok (.lload_n 3, 1) := by decide +kernel
theorem dX1_isSo_47 : decode cX1_isSo 47 = .ok (.iconst 0, 1) := by decide +kernel
theorem dX1_isSo_48 : decode cX1_isSo 48 = .ok (.invokestatic 34, 3) := by decide +kernel
theorem dX1_isSo_51 : decode cX1_isSo 51 = .ok (.iload_n 1, 1) := by decide +kernel
theorem dX1_isSo_52 : decode cX1_isSo 52 = .ok (.if_icmp .ne 7, 3) := by decide +kernel
theorem dX1_isSo_55 : decode cX1_isSo 55 = .ok (.iconst 1, 1) := by decide +kernel
theorem dX1_isSo_56 : decode cX1_isSo 56 = .ok (.goto 4, 3) := by decide +kernel
theorem dX1_isSo_59 : decode cX1_isSo 59 = .ok (.iconst 0, 1) := by decide +kernel
theorem dX1_isSo_60 : decode cX1_isSo 60 = .ok (.ireturn, 1) := by decide +kernel
theorem dX1_isSo_61 : decode cX1_isSo 61 = .ok (.lload_n 3, 1) := by decide +kernel
theorem dX1_isSo_62 : decode cX1_isSo 62 = .ok (.invokestatic 40, 3) := by decide +kernel
theorem dX1_isSo_65 : decode cX1_isSo 65 = .ok (.iload_n 1, 1) := by decide +kernel
theorem dX1_isSo_66 : decode cX1_isSo 66 = .ok (.if_icmp .ne 7, 3) := by decide +kernel
theorem dX1_isSo_69 : decode cX1_isSo 69 = .ok (.iconst 1, 1) := by decide +kernel
theorem dX1_isSo_70 : decode cX1_isSo 70 = .ok (.goto 4, 3) := by decide +kernel
theorem dX1_isSo_73 : decode cX1_isSo 73 = .ok (.iconst 0, 1) := by decide +kernel
theorem dX1_isSo_74 : decode cX1_isSo 74 = .ok (.ireturn, 1) := by decide +kernel
theorem dX1_isSo_75 : decode cX1_isSo 75 = .ok (.lload_n 3, 1) := by decide +kernel
theorem dX1_isSo_76 : decode cX1_isSo 76 = .ok (.invokestatic 44, 3) := by decide +kernel
theorem dX1_isSo_79 : decode cX1_isSo 79 = .ok (.iload_n 1, 1) := by decide +kernel
theorem dX1_isSo_80 : decode cX1_isSo 80 = .ok (.if_icmp .ne 7, 3) := by decide +kernel
theorem dX1_isSo_83 : decode cX1_isSo 83 = .ok (.iconst 1, 1) := by decide +kernel
theorem dX1_isSo_84 : decode cX1_isSo 84 = .ok (.goto 4, 3) := by decide +kernel
theorem dX1_isSo_87 : decode cX1_isSo 87 = .ok (.iconst 0, 1) := by decide +kernel
theorem dX1_isSo_88 : decode cX1_isSo 88 = .ok (.ireturn, 1) := by decide +kernel
theorem dX1_isSo_89 : decode cX1_isSo 89 = .ok (.lload_n 3, 1) := by decide +kernel
theorem dX1_isSo_90 : decode cX1_isSo 90 = .ok (.invokestatic 47, 3) := by decide +kernel
theorem dX1_isSo_93 : decode cX1_isSo 93 = .ok (.iconst 1, 1) := by decide +kernel
theorem dX1_isSo_94 : decode cX1_isSo 94 = .ok (.iload_n 1, 1) := by decide +kernel
theorem dX1_isSo_95 : decode cX1_isSo 95 = .ok (.ishl, 1) := by decide +kernel
theorem dX1_isSo_96 : decode cX1_isSo 96 = .ok (.iand, 1) := by decide +kernel
theorem dX1_isSo_97 : decode cX1_isSo 97 = .ok (.ifCond .eq 7, 3) := by decide +kernel
theorem dX1_isSo_100 : decode cX1_isSo 100 = .ok (.iconst 1, 1) := by decide +kernel
theorem dX1_isSo_101 : decode cX1_isSo 101 = .ok (.goto 4, 3) := by decide +kernel
theorem dX1_isSo_104 : decode cX1_isSo 104 = .ok (.iconst 0, 1) := by decide +kernel
theorem dX1_isSo_105 : decode cX1_isSo 105 = .ok (.ireturn, 1) := by decide +kernel
theorem dX1_lastOf_0 : decode cX1_lastOf 0 = .ok (.lload_n 0, 1) := by decide +kernel
theorem dX1_lastOf_1 : decode cX1_lastOf 1 = .ok (.invokestatic 44, 3) := by decide +kernel
theorem dX1_lastOf_4 : decode cX1_lastOf 4 = .ok (.istore_n 2, 1) := by decide +kernel
theorem dX1_lastOf_5 : decode cX1_lastOf 5 = .ok (.iload_n 2, 1) := by decide +kernel
theorem dX1_lastOf_6 : decode cX1_lastOf 6 = .ok (.ifCond .ne 7, 3) := by decide +kernel
theorem dX1_lastOf_9 : decode cX1_lastOf 9 = .ok (.iconst (-1), 1) := by decide +kernel
theorem dX1_lastOf_10 : decode cX1_lastOf 10 = .ok (.goto 10, 3) := by decide +kernel
theorem dX1_lastOf_13 : decode cX1_lastOf 13 = .ok (.lload_n 0, 1) := by decide +kernel
theorem dX1_lastOf_14 : decode cX1_lastOf 14 = .ok (.iload_n 2, 1) := by decide +kernel
theorem dX1_lastOf_15 : decode cX1_lastOf 15 = .ok (.iconst 1, 1) := by decide +kernel
theorem dX1_lastOf_16 : decode cX1_lastOf 16 = .ok (.isub, 1) := by decide +kernel
theorem dX1_lastOf_17 : decode cX1_lastOf 17 = .ok (.invokestatic 34, 3) := by decide +kernel
theorem dX1_lastOf_20 : decode cX1_lastOf 20 = .ok (.ireturn, 1) := by decide +kernel
theorem dX1_tally_0 : decode cX1_tally 0 = .ok (.iconst 0, 1) := by decide +kernel
theorem dX1_tally_1 : decode cX1_tally 1 = .ok (.istore_n 2, 1) := by decide +kernel
theorem dX1_tally_2 : decode cX1_tally 2 = .ok (.iload_n 2, 1) := by decide +kernel
theorem dX1_tally_3 : decode cX1_tally 3 = .ok (.iconst 5, 1) := by decide +kernel
theorem dX1_tally_4 : decode cX1_tally 4 = .ok (.if_icmp .ge 37, 3) := by decide +kernel
theorem dX1_tally_7 : decode cX1_tally 7 = .ok (.iconst 0, 1) := by decide +kernel
theorem dX1_tally_8 : decode cX1_tally 8 = .ok (.istore_n 3, 1) := by decide +kernel
theorem dX1_tally_9 : decode cX1_tally 9 = .ok (.iload_n 3, 1) := by decide +kernel
theorem dX1_tally_10 : decode cX1_tally 10 = .ok (.aload_n 0, 1) := by decide +kernel
theorem dX1_tally_11 : decode cX1_tally 11 = .ok (.getfield 20, 3) := by decide +kernel
theorem dX1_tally_14 : decode cX1_tally 14 = .ok (.iload_n 2, 1) := by decide +kernel
theorem dX1_tally_15 : decode cX1_tally 15 = .ok (.aaload, 1) := by decide +kernel
theorem dX1_tally_16 : decode cX1_tally 16 = .ok (.arraylength, 1) := by decide +kernel
theorem dX1_tally_17 : decode cX1_tally 17 = .ok (.if_icmp .ge 18, 3) := by decide +kernel
theorem dX1_tally_20 : decode cX1_tally 20 = .ok (.aload_n 0, 1) := by decide +kernel
theorem dX1_tally_21 : decode cX1_tally 21 = .ok (.getfield 20, 3) := by decide +kernel
theorem dX1_tally_24 : decode cX1_tally 24 = .ok (.iload_n 2, 1) := by decide +kernel
theorem dX1_tally_25 : decode cX1_tally 25 = .ok (.aaload, 1) := by decide +kernel
theorem dX1_tally_26 : decode cX1_tally 26 = .ok (.iload_n 3, 1) := by decide +kernel
theorem dX1_tally_27 : decode cX1_tally 27 = .ok (.iconst 0, 1) := by decide +kernel
theorem dX1_tally_28 : decode cX1_tally 28 = .ok (.iastore, 1) := by decide +kernel
theorem dX1_tally_29 : decode cX1_tally 29 = .ok (.iinc 3 1, 3) := by decide +kernel
theorem dX1_tally_32 : decode cX1_tally 32 = .ok (.goto (-23), 3) := by decide +kernel
theorem dX1_tally_35 : decode cX1_tally 35 = .ok (.iinc 2 1, 3) := by decide +kernel
theorem dX1_tally_38 : decode cX1_tally 38 = .ok (.goto (-36), 3) := by decide +kernel
theorem dX1_tally_41 : decode cX1_tally 41 = .ok (.iconst 0, 1) := by decide +kernel
theorem dX1_tally_42 : decode cX1_tally 42 = .ok (.istore_n 2, 1) := by decide +kernel
theorem dX1_tally_43 : decode cX1_tally 43 = .ok (.iconst 1, 1) := by decide +kernel
theorem dX1_tally_44 : decode cX1_tally 44 = .ok (.istore_n 3, 1) := by decide +kernel
theorem dX1_tally_45 : decode cX1_tally 45 = .ok (.iload_n 3, 1) := by decide +kernel
theorem dX1_tally_46 : decode cX1_tally 46 = .ok (.aload_n 1, 1) := by decide +kernel
theorem dX1_tally_47 : decode cX1_tally 47 = .ok (.invokevirtual 50, 3) := by decide +kernel
theorem dX1_tally_50 : decode cX1_tally 50 = .ok (.if_icmp .gt 43, 3) := by decide +kernel
theorem dX1_tally_53 : decode cX1_tally 53 = .ok (.aload_n 0, 1) := by decide +kernel
theorem dX1_tally_54 : decode cX1_tally 54 = .ok (.aload_n 1, 1) := by decide +kernel
theorem dX1_tally_55 : decode cX1_tally 55 = .ok (.iload_n 3, 1) := by decide +kernel
theorem dX1_tally_56 : decode cX1_tally 56 = .ok (.invokevirtual 55, 3) := by decide +kernel
theorem dX1_tally_59 : decode cX1_tally 59 = .ok (.aload_n 1, 1) := by decide +kernel
theorem dX1_tally_60 : decode cX1_tally 60 = .ok (.iload_n 3, 1) := by decide +kernel
theorem dX1_tally_61 : decode cX1_tally 61 = .ok (.invokevirtual 59, 3) := by decide +kernel
theorem dX1_tally_64 : decode cX1_tally 64 = .ok (.invokevirtual 63, 3) := by decide +kernel
theorem dX1_tally_67 : decode cX1_tally 67 = .ok (.ifCond .eq 20, 3) := by decide +kernel
theorem dX1_tally_70 : decode cX1_tally 70 = .ok (.aload_n 0, 1) := by decide +kernel
theorem dX1_tally_71 : decode cX1_tally 71 = .ok (.aload_n 1, 1) := by decide +kernel
theorem dX1_tally_72 : decode cX1_tally 72 = .ok (.iload_n 3, 1) := by decide +kernel
theorem dX1_tally_73 : decode cX1_tally 73 = .ok (.invokevirtual 55, 3) := by decide +kernel
theorem dX1_tally_76 : decode cX1_tally 76 = .ok (.aload_n 1, 1) := by decide +kernel
theorem dX1_tally_77 : decode cX1_tally 77 = .ok (.iload_n 3, 1) := by decide +kernel
theorem dX1_tally_78 : decode cX1_tally 78 = .ok (.invokevirtual 59, 3) := by decide +kernel
theorem dX1_tally_81 : decode cX1_tally 81 = .ok (.invokevirtual 67, 3) := by decide +kernel
theorem dX1_tally_84 : decode cX1_tally 84 = .ok (.iinc 2 1, 3) := by decide +kernel
theorem dX1_tally_87 : decode cX1_tally 87 = .ok (.iinc 3 1, 3) := by decide +kernel
theorem dX1_tally_90 : decode cX1_tally 90 = .ok (.goto (-45), 3) := by decide +kernel
theorem dX1_tally_93 : decode cX1_tally 93 = .ok (.getstatic 27, 3) := by decide +kernel
theorem dX1_tally_96 : decode cX1_tally 96 = .ok (.iconst 0, 1) := by decide +kernel
theorem dX1_tally_97 : decode cX1_tally 97 = .ok (.iaload, 1) := by decide +kernel
theorem dX1_tally_98 : decode cX1_tally 98 = .ok (.iconst 1, 1) := by decide +kernel
theorem dX1_tally_99 : decode cX1_tally 99 = .ok (.isub, 1) := by decide +kernel
theorem dX1_tally_100 : decode cX1_tally 100 = .ok (.istore_n 3, 1) := by decide +kernel
theorem dX1_tally_101 : decode cX1_tally 101 = .ok (.iload_n 3, 1) := by decide +kernel
theorem dX1_tally_102 : decode cX1_tally 102 = .ok (.ifCond .lt 30, 3) := by decide +kernel
theorem dX1_tally_105 : decode cX1_tally 105 = .ok (.aload_n 0, 1) := by decide +kernel
theorem dX1_tally_106 : decode cX1_tally 106 = .ok (.getfield 20, 3) := by decide +kernel
theorem dX1_tally_109 : decode cX1_tally 109 = .ok (.iconst 0, 1) := by decide +kernel
theorem dX1_tally_110 : decode cX1_tally 110 = .ok (.aaload, 1) := by decide +kernel
theorem dX1_tally_111 : decode cX1_tally 111 = .ok (.iload_n 3, 1) := by decide +kernel
theorem dX1_tally_112 : decode cX1_tally 112 = .ok (.dup2, 1) := by decide +kernel
theorem dX1_tally_113 : decode cX1_tally 113 = .ok (.iaload, 1) := by decide +kernel
theorem dX1_tally_114 : decode cX1_tally 114 = .ok (.aload_n 0, 1) := by decide +kernel
theorem dX1_tally_115 : decode cX1_tally 115 = .ok (.getfield 20, 3) := by decide +kernel
theorem dX1_tally_118 : decode cX1_tally 118 = .ok (.iconst 0, 1) := by decide +kernel
theorem dX1_tally_119 : decode cX1_tally 119 = .ok (.aaload, 1) := by decide +kernel
theorem dX1_tally_120 : decode cX1_tally 120 = .ok (.iload_n 3, 1) := by decide +kernel
theorem dX1_tally_121 : decode cX1_tally 121 = .ok (.iconst 1, 1) := by decide +kernel
theorem dX1_tally_122 : decode cX1_tally 122 = .ok (.iadd, 1) := by decide +kernel
theorem dX1_tally_123 : decode cX1_tally 123 = .ok (.iaload, 1) := by decide +kernel
theorem dX1_tally_124 : decode cX1_tally 124 = .ok (.iadd, 1) := by decide +kernel
theorem dX1_tally_125 : decode cX1_tally 125 = .ok (.iastore, 1) := by decide +kernel
theorem dX1_tally_126 : decode cX1_tally 126 = .ok (.iinc 3 (-1), 3) := by decide +kernel
theorem dX1_tally_129 : decode cX1_tally 129 = .ok (.goto (-28), 3) := by decide +kernel
theorem dX1_tally_132 : decode cX1_tally 132 = .ok (.iload_n 2, 1) := by decide +kernel
theorem dX1_tally_133 : decode cX1_tally 133 = .ok (.ireturn, 1) := by decide +kernel
theorem dX1_tallyOne_0 : decode cX1_tallyOne 0 = .ok (.iload_n 1, 1) := by decide +kernel
theorem dX1_tallyOne_1 : decode cX1_tallyOne 1 = .ok (.ifCond .lt 20, 3) := by decide +kernel
theorem dX1_tallyOne_4 : decode cX1_tallyOne 4 = .ok (.aload_n 0, 1) := by decide +kernel
theorem dX1_tallyOne_5 : decode cX1_tallyOne 5 = .ok (.iconst 0, 1) := by decide +kernel
theorem dX1_tallyOne_6 : decode cX1_tallyOne 6 = .ok (.iload_n 1, 1) := by decide +kernel
theorem dX1_tallyOne_7 : decode cX1_tallyOne 7 = .ok (.bipush 10, 2) := by decide +kernel
theorem dX1_tallyOne_9 : decode cX1_tallyOne 9 = .ok (.idiv, 1) := by decide +kernel
theorem dX1_tallyOne_10 : decode cX1_tallyOne 10 = .ok (.getstatic 27, 3) := by decide +kernel
theorem dX1_tallyOne_13 : decode cX1_tallyOne 13 = .ok (.iconst 0, 1) := by decide +kernel
theorem dX1_tallyOne_14 : decode cX1_tallyOne 14 = .ok (.iaload, 1) := by decide +kernel
theorem dX1_tallyOne_15 : decode cX1_tallyOne 15 = .ok (.invokestatic 71, 3) := by decide +kernel
theorem dX1_tallyOne_18 : decode cX1_tallyOne 18 = .ok (.invokevirtual 77, 3) := by decide +kernel
theorem dX1_tallyOne_21 : decode cX1_tallyOne 21 = .ok (.aload_n 0, 1) := by decide +kernel
theorem dX1_tallyOne_22 : decode cX1_tallyOne 22 = .ok (.iconst 1, 1) := by decide +kernel
theorem dX1_tallyOne_23 : decode cX1_tallyOne 23 = .ok (.lload_n 2, 1) := by decide +kernel
theorem dX1_tallyOne_24 : decode cX1_tallyOne 24 = .ok (.iconst 0, 1) := by decide +kernel
theorem dX1_tallyOne_25 : decode cX1_tallyOne 25 = .ok (.invokestatic 34, 3) := by decide +kernel
theorem dX1_tallyOne_28 : decode cX1_tallyOne 28 = .ok (.invokevirtual 77, 3) := by decide +kernel
theorem dX1_tallyOne_31 : decode cX1_tallyOne 31 = .ok (.aload_n 0, 1) := by decide +kernel
theorem dX1_tallyOne_32 : decode cX1_tallyOne 32 = .ok (.iconst 2, 1) := by decide +kernel
theorem dX1_tallyOne_33 : decode cX1_tallyOne 33 = .ok (.lload_n 2, 1) := by decide +kernel
theorem dX1_tallyOne_34 : decode cX1_tallyOne 34 = .ok (.invokestatic 40, 3) := by decide +kernel
theorem dX1_tallyOne_37 : decode cX1_tallyOne 37 = .ok (.invokevirtual 77, 3) := by decide +kernel
theorem dX1_tallyOne_40 : decode cX1_tallyOne 40 = .ok (.aload_n 0, 1) := by decide +kernel
theorem dX1_tallyOne_41 : decode cX1_tallyOne 41 = .ok (.iconst 3, 1) := by decide +kernel
theorem dX1_tallyOne_42 : decode cX1_tallyOne 42 = .ok (.lload_n 2, 1) := by decide +kernel
theorem dX1_tallyOne_43 : decode cX1_tallyOne 43 = .ok (.invokestatic 44, 3) := by decide +kernel
theorem dX1_tallyOne_46 : decode cX1_tallyOne 46 = .ok (.invokevirtual 77, 3) := by decide +kernel
theorem dX1_tallyOne_49 : decode cX1_tallyOne 49 = .ok (.lload_n 2, 1) := by decide +kernel
theorem dX1_tallyOne_50 : decode cX1_tallyOne 50 = .ok (.invokestatic 47, 3) := by decide +kernel
theorem dX1_tallyOne_53 : decode cX1_tallyOne 53 = .ok (.istore 4, 2) := by decide +kernel
theorem dX1_tallyOne_55 : decode cX1_tallyOne 55 = .ok (.iconst 0, 1) := by decide +kernel
theorem dX1_tallyOne_56 : decode cX1_tallyOne 56 = .ok (.istore 5, 2) := by decide +kernel
theorem dX1_tallyOne_58 : decode cX1_tallyOne 58 = .ok (.iload 5, 2) := by decide +kernel
theorem dX1_tallyOne_60 : decode cX1_tallyOne 60 = .ok (.getstatic 27, 3) := by decide +kernel
theorem dX1_tallyOne_63 : decode cX1_tallyOne 63 = .ok (.iconst 4, 1) := by decide +kernel
theorem dX1_tallyOne_64 : decode cX1_tallyOne 64 = .ok (.iaload, 1) := by decide +kernel
theorem dX1_tallyOne_65 : decode cX1_tallyOne 65 = .ok (.if_icmp .gt 26, 3) := by decide +kernel
theorem dX1_tallyOne_68 : decode cX1_tallyOne 68 = .ok (.iload 4, 2) := by decide +kernel
theorem dX1_tallyOne_70 : decode cX1_tallyOne 70 = .ok (.iconst 1, 1) := by decide +kernel
theorem dX1_tallyOne_71 : decode cX1_tallyOne 71 = .ok (.iload 5, 2) := by decide +kernel
theorem dX1_tallyOne_73 : decode cX1_tallyOne 73 = .ok (.ishl, 1) := by decide +kernel
theorem dX1_tallyOne_74 : decode cX1_tallyOne 74 = .ok (.iand, 1) := by decide +kernel
theorem dX1_tallyOne_75 : decode cX1_tallyOne 75 = .ok (.ifCond .eq 10, 3) := by decide +kernel
theorem dX1_tallyOne_78 : decode cX1_tallyOne 78 = .ok (.aload_n 0, 1) := by decide +kernel
theorem dX1_tallyOne_79 : decode cX1_tallyOne 79 = .ok (.iconst 4, 1) := by decide +kernel
theorem dX1_tallyOne_80 : decode cX1_tallyOne 80 = .ok (.iload 5, 2) := by decide +kernel
theorem dX1_tallyOne_82 : decode cX1_tallyOne 82 = .ok (.invokevirtual 77, 3) := by decide +kernel
theorem dX1_tallyOne_85 : decode cX1_tallyOne 85 = .ok (.iinc 5 1, 3) := by decide +kernel
theorem dX1_tallyOne_88 : decode cX1_tallyOne 88 = .ok (.goto (-30), 3) := by decide +kernel
theorem dX1_tallyOne_91 : decode cX1_tallyOne 91 = .ok (.return_, 1) := by decide +kernel
theorem dX1_addTo_0 : decode cX1_addTo 0 = .ok (.iload_n 2, 1) := by decide +kernel
theorem dX1_addTo_1 : decode cX1_addTo 1 = .ok (.ifCond .lt 26, 3) := by decide +kernel
theorem dX1_addTo_4 : decode cX1_addTo 4 = .ok (.iload_n 2, 1) := by decide +kernel
theorem dX1_addTo_5 : decode cX1_addTo 5 = .ok (.aload_n 0, 1) := by decide +kernel
theorem dX1_addTo_6 : decode cX1_addTo 6 = .ok (.getfield 20, 3) := by decide +kernel
theorem dX1_addTo_9 : decode cX1_addTo 9 = .ok (.iload_n 1, 1) := by decide +kernel
theorem dX1_addTo_10 : decode cX1_addTo 10 = .ok (.aaload, 1) := by decide +kernel
theorem dX1_addTo_11 : decode cX1_addTo 11 = .ok (.arraylength, 1) := by decide +kernel
theorem dX1_addTo_12 : decode cX1_addTo 12 = .ok (.if_icmp .ge 15, 3) := by decide +kernel
theorem dX1_addTo_15 : decode cX1_addTo 15 = .ok (.aload_n 0, 1) := by decide +kernel
theorem dX1_addTo_16 : decode cX1_addTo 16 = .ok (.getfield 20, 3) := by decide +kernel
theorem dX1_addTo_19 : decode cX1_addTo 19 = .ok (.iload_n 1, 1) := by decide +kernel
theorem dX1_addTo_20 : decode cX1_addTo 20 = .ok (.aaload, 1) := by decide +kernel
theorem dX1_addTo_21 : decode cX1_addTo 21 = .ok (.iload_n 2, 1) := by decide +kernel
theorem dX1_addTo_22 : decode cX1_addTo 22 = .ok (.dup2, 1) := by decide +kernel
theorem dX1_addTo_23 : decode cX1_addTo 23 = .ok (.iaload, 1) := by decide +kernel
theorem dX1_addTo_24 : decode cX1_addTo 24 = .ok (.iconst 1, 1) := by decide +kernel
theorem dX1_addTo_25 : decode cX1_addTo 25 = .ok (.iadd, 1) := by decide +kernel
theorem dX1_addTo_26 : decode cX1_addTo 26 = .ok (.iastore, 1) := by decide +kernel
theorem dX1_addTo_27 : decode cX1_addTo 27 = .ok (.return_, 1) := by decide +kernel
theorem dX1_bestQuestion_0 : decode cX1_bestQuestion 0 = .ok (.iconst 0, 1) := by decide +kernel
theorem dX1_bestQuestion_1 : decode cX1_bestQuestion 1 = .ok (.istore_n 2, 1) := by decide +kernel
theorem dX1_bestQuestion_2 : decode cX1_bestQuestion 2 = .ok (.iload_n 1, 1) := by decide +kernel
theorem dX1_bestQuestion_3 : decode cX1_bestQuestion 3 = .ok (.iconst 1, 1) := by decide +kernel
theorem dX1_bestQuestion_4 : decode cX1_bestQuestion 4 = .ok (.iadd, 1) := by decide +kernel
theorem dX1_bestQuestion_5 : decode cX1_bestQuestion 5 = .ok (.istore_n 3, 1) := by decide +kernel
theorem dX1_bestQuestion_6 : decode cX1_bestQuestion 6 = .ok (.iconst 0, 1) := by decide +kernel
theorem dX1_bestQuestion_7 : decode cX1_bestQuestion 7 = .ok (.istore 4, 2) := by decide +kernel
theorem dX1_bestQuestion_9 : decode cX1_bestQuestion 9 = .ok (.iload 4, 2) := by decide +kernel
theorem dX1_bestQuestion_11 : decode cX1_bestQuestion 11 = .ok (.iconst 5, 1) := by decide +kernel
theorem dX1_bestQuestion_12 : decode cX1_bestQuestion 12 = .ok (.if_icmp .ge 58, 3) := by decide +kernel
theorem dX1_bestQuestion_15 : decode cX1_bestQuestion 15 = .ok (.iconst 0, 1) := by decide +kernel
theorem dX1_bestQuestion_16 : decode cX1_bestQuestion 16 = .ok (.istore 5, 2) := by decide +kernel
theorem dX1_bestQuestion_18 : decode cX1_bestQuestion 18 = .ok (.iload 5, 2) := by decide +kernel
theorem dX1_bestQuestion_20 : decode cX1_bestQuestion 20 = .ok (.getstatic 27, 3) := by decide +kernel
theorem dX1_bestQuestion_23 : decode cX1_bestQuestion 23 = .ok (.iload 4, 2) := by decide +kernel
theorem dX1_bestQuestion_25 : decode cX1_bestQuestion 25 = .ok (.iaload, 1) := by decide +kernel
theorem dX1_bestQuestion_26 : decode cX1_bestQuestion 26 = .ok (.if_icmp .gt 38, 3) := by decide +kernel
theorem dX1_bestQuestion_29 : decode cX1_bestQuestion 29 = .ok (.aload_n 0, 1) := by decide +kernel
theorem dX1_bestQuestion_30 : decode cX1_bestQuestion 30 = .ok (.iload 4, 2) := by decide +kernel
theorem dX1_bestQuestion_32 : decode cX1_bestQuestion 32 = .ok (.iload 5, 2) := by decide +kernel
theorem dX1_bestQuestion_34 : decode cX1_bestQuestion 34 = .ok (.iload_n 1, 1) := by decide +kernel
theorem dX1_bestQuestion_35 : decode cX1_bestQuestion 35 = .ok (.invokevirtual 81, 3) := by decide +kernel
theorem dX1_bestQuestion_38 : decode cX1_bestQuestion 38 = .ok (.istore 6, 2) := by decide +kernel
theorem dX1_bestQuestion_40 : decode cX1_bestQuestion 40 = .ok (.iload 6, 2) := by decide +kernel
theorem dX1_bestQuestion_42 : decode cX1_bestQuestion 42 = .ok (.iload_n 3, 1) := by decide +kernel
theorem dX1_bestQuestion_43 : decode cX1_bestQuestion 43 = .ok (.if_icmp .ge 15, 3) := by decide +kernel
theorem dX1_bestQuestion_46 : decode cX1_bestQuestion 46 = .ok (.iload 6, 2) := by decide +kernel
theorem dX1_bestQuestion_48 : decode cX1_bestQuestion 48 = .ok (.istore_n 3, 1) := by decide +kernel
theorem dX1_bestQuestion_49 : decode cX1_bestQuestion 49 = .ok (.bipush 100, 2) := by decide +kernel
theorem dX1_bestQuestion_51 : decode cX1_bestQuestion 51 = .ok (.iload 4, 2) := by decide +kernel
theorem dX1_bestQuestion_53 : decode cX1_bestQuestion 53 = .ok (.imul, 1) := by decide +kernel
theorem dX1_bestQuestion_54 : decode cX1_bestQuestion 54 = .ok (.iload 5, 2) := by decide +kernel
theorem dX1_bestQuestion_56 : decode cX1_bestQuestion 56 = .ok (.iadd, 1) := by decide +kernel
theorem dX1_bestQuestion_57 : decode cX1_bestQuestion 57 = .ok (.istore_n 2, 1) := by decide +kernel
theorem dX1_bestQuestion_58 : decode cX1_bestQuestion 58 = .ok (.iinc 5 1, 3) := by decide +kernel
theorem dX1_bestQuestion_61 : decode cX1_bestQuestion 61 = .ok (.goto (-43), 3) := by decide +kernel
theorem dX1_bestQuestion_64 : decode cX1_bestQuestion 64 = .ok (.iinc 4 1, 3) := by decide +kernel
theorem dX1_bestQuestion_67 : decode cX1_bestQuestion 67 = .ok (.goto (-58), 3) := by decide +kernel
theorem dX1_bestQuestion_70 : decode cX1_bestQuestion 70 = .ok (.iload_n 2, 1) := by decide +kernel
theorem dX1_bestQuestion_71 : decode cX1_bestQuestion 71 = .ok (.ireturn, 1) := by decide +kernel
theorem dX1_mostLeft_0 : decode cX1_mostLeft 0 = .ok (.iload_n 1, 1) := by decide +kernel
theorem dX1_mostLeft_1 : decode cX1_mostLeft 1 = .ok (.ifCond .lt 23, 3) := by decide +kernel
theorem dX1_mostLeft_4 : decode cX1_mostLeft 4 = .ok (.iload_n 1, 1) := by decide +kernel
theorem dX1_mostLeft_5 : decode cX1_mostLeft 5 = .ok (.iconst 5, 1) := by decide +kernel
theorem dX1_mostLeft_6 : decode cX1_mostLeft 6 = .ok (.if_icmp .ge 18, 3) := by decide +kernel
theorem dX1_mostLeft_9 : decode cX1_mostLeft 9 = .ok (.iload_n 2, 1) := by decide +kernel
theorem dX1_mostLeft_10 : decode cX1_mostLeft 10 = .ok (.ifCond .lt 14, 3) := by decide +kernel
theorem dX1_mostLeft_13 : decode cX1_mostLeft 13 = .ok (.iload_n 2, 1) := by decide +kernel
theorem dX1_mostLeft_14 : decode cX1_mostLeft 14 = .ok (.aload_n 0, 1) := by decide +kernel
theorem dX1_mostLeft_15 : decode cX1_mostLeft 15 = .ok (.getfield 20, 3) := by decide +kernel
theorem dX1_mostLeft_18 : decode cX1_mostLeft 18 = .ok (.iload_n 1, 1) := by decide +kernel
theorem dX1_mostLeft_19 : decode cX1_mostLeft 19 = .ok (.aaload, 1) := by decide +kernel
theorem dX1_mostLeft_20 : decode cX1_mostLeft 20 = .ok (.arraylength, 1) := by decide +kernel
theorem dX1_mostLeft_21 : decode cX1_mostLeft 21 = .ok (.if_icmp .lt 5, 3) := by decide +kernel
theorem dX1_mostLeft_24 : decode cX1_mostLeft 24 = .ok (.iload_n 3, 1) := by decide +kernel
theorem dX1_mostLeft_25 : decode cX1_mostLeft 25 = .ok (.ireturn, 1) := by decide +kernel
theorem dX1_mostLeft_26 : decode cX1_mostLeft 26 = .ok (.aload_n 0, 1) := by decide +kernel
theorem dX1_mostLeft_27 : decode cX1_mostLeft 27 = .ok (.getfield 20, 3) := by decide +kernel
theorem dX1_mostLeft_30 : decode cX1_mostLeft 30 = .ok (.iload_n 1, 1) := by decide +kernel
theorem dX1_mostLeft_31 : decode cX1_mostLeft 31 = .ok (.aaload, 1) := by decide +kernel
theorem dX1_mostLeft_32 : decode cX1_mostLeft 32 = .ok (.iload_n 2, 1) := by decide +kernel
theorem dX1_mostLeft_33 : decode cX1_mostLeft 33 = .ok (.iaload, 1) := by decide +kernel
theorem dX1_mostLeft_34 : decode cX1_mostLeft 34 = .ok (.iload_n 3, 1) := by decide +kernel
theorem dX1_mostLeft_35 : decode cX1_mostLeft 35 = .ok (.aload_n 0, 1) := by decide +kernel
theorem dX1_mostLeft_36 : decode cX1_mostLeft 36 = .ok (.getfield 20, 3) := by decide +kernel
theorem dX1_mostLeft_39 : decode cX1_mostLeft 39 = .ok (.iload_n 1, 1) := by decide +kernel
theorem dX1_mostLeft_40 : decode cX1_mostLeft 40 = .ok (.aaload, 1) := by decide +kernel
theorem dX1_mostLeft_41 : decode cX1_mostLeft 41 = .ok (.iload_n 2, 1) := by decide +kernel
theorem dX1_mostLeft_42 : decode cX1_mostLeft 42 = .ok (.iaload, 1) := by decide +kernel
theorem dX1_mostLeft_43 : decode cX1_mostLeft 43 = .ok (.isub, 1) := by decide +kernel
theorem dX1_mostLeft_44 : decode cX1_mostLeft 44 = .ok (.invokestatic 85, 3) := by decide +kernel
theorem dX1_mostLeft_47 : decode cX1_mostLeft 47 = .ok (.ireturn, 1) := by decide +kernel
