theorem dX11_skips_56 : decode cX11_skips 56 = .ok (.iload 4, 2) := by decide +kernel
theorem dX11_skips_58 : decode cX11_skips 58 = .ok (.invokevirtual 280, 3) := by decide +kernel
theorem dX11_skips_61 : decode cX11_skips 61 = .ok (.iload 4, 2) := by decide +kernel
theorem dX11_skips_63 : decode cX11_skips 63 = .ok (.aload_n 3, 1) := by decide +kernel
theorem dX11_skips_64 : decode cX11_skips 64 = .ok (.invokevirtual 277, 3) := by decide +kernel
theorem dX11_skips_67 : decode cX11_skips 67 = .ok (.isub, 1) := by decide +kernel
theorem dX11_skips_68 : decode cX11_skips 68 = .ok (.ireturn, 1) := by decide +kernel
theorem dX11_heard_0 : decode cX11_heard 0 = .ok (.aload_n 0, 1) := by decide +kernel
theorem dX11_heard_1 : decode cX11_heard 1 = .ok (.getfield 70, 3) := by decide +kernel
theorem dX11_heard_4 : decode cX11_heard 4 = .ok (.iload_n 1, 1) := by decide +kernel
theorem dX11_heard_5 : decode cX11_heard 5 = .ok (.iload_n 2, 1) := by decide +kernel
theorem dX11_heard_6 : decode cX11_heard 6 = .ok (.invokevirtual 284, 3) := by decide +kernel
theorem dX11_heard_9 : decode cX11_heard 9 = .ok (.ifCond .eq 13, 3) := by decide +kernel
theorem dX11_heard_12 : decode cX11_heard 12 = .ok (.aload_n 0, 1) := by decide +kernel
theorem dX11_heard_13 : decode cX11_heard 13 = .ok (.getfield 70, 3) := by decide +kernel
theorem dX11_heard_16 : decode cX11_heard 16 = .ok (.invokevirtual 286, 3) := by decide +kernel
theorem dX11_heard_19 : decode cX11_heard 19 = .ok (.goto 4, 3) := by decide +kernel
theorem dX11_heard_22 : decode cX11_heard 22 = .ok (.iconst (-1), 1) := by decide +kernel
theorem dX11_heard_23 : decode cX11_heard 23 = .ok (.ireturn, 1) := by decide +kernel
theorem dX11_forget_0 : decode cX11_forget 0 = .ok (.aload_n 0, 1) := by decide +kernel
theorem dX11_forget_1 : decode cX11_forget 1 = .ok (.getfield 70, 3) := by decide +kernel
theorem dX11_forget_4 : decode cX11_forget 4 = .ok (.invokevirtual 286, 3) := by decide +kernel
theorem dX11_forget_7 : decode cX11_forget 7 = .ok (.istore_n 1, 1) := by decide +kernel
theorem dX11_forget_8 : decode cX11_forget 8 = .ok (.aload_n 0, 1) := by decide +kernel
theorem dX11_forget_9 : decode cX11_forget 9 = .ok (.getfield 70, 3) := by decide +kernel
theorem dX11_forget_12 : decode cX11_forget 12 = .ok (.invokevirtual 287, 3) := by decide +kernel
theorem dX11_forget_15 : decode cX11_forget 15 = .ok (.iload_n 1, 1) := by decide +kernel
theorem dX11_forget_16 : decode cX11_forget 16 = .ok (.ireturn, 1) := by decide +kernel
theorem dX11_fits_0 : decode cX11_fits 0 = .ok (.iload_n 1, 1) := by decide +kernel
theorem dX11_fits_1 : decode cX11_fits 1 = .ok (.invokestatic 203, 3) := by decide +kernel
theorem dX11_fits_4 : decode cX11_fits 4 = .ok (.ifCond .ne 5, 3) := by decide +kernel
theorem dX11_fits_7 : decode cX11_fits 7 = .ok (.iconst (-1), 1) := by decide +kernel
theorem dX11_fits_8 : decode cX11_fits 8 = .ok (.ireturn, 1) := by decide +kernel
theorem dX11_fits_9 : decode cX11_fits 9 = .ok (.aload_n 0, 1) := by decide +kernel
theorem dX11_fits_10 : decode cX11_fits 10 = .ok (.iload_n 1, 1) := by decide +kernel
theorem dX11_fits_11 : decode cX11_fits 11 = .ok (.invokevirtual 210, 3) := by decide +kernel
theorem dX11_fits_14 : decode cX11_fits 14 = .ok (.astore_n 2, 1) := by decide +kernel
theorem dX11_fits_15 : decode cX11_fits 15 = .ok (.iconst 0, 1) := by decide +kernel
theorem dX11_fits_16 : decode cX11_fits 16 = .ok (.istore_n 3, 1) := by decide +kernel
theorem dX11_fits_17 : decode cX11_fits 17 = .ok (.iconst 0, 1) := by decide +kernel
theorem dX11_fits_18 : decode cX11_fits 18 = .ok (.istore 4, 2) := by decide +kernel
theorem dX11_fits_20 : decode cX11_fits 20 = .ok (.iconst 1, 1) := by decide +kernel
theorem dX11_fits_21 : decode cX11_fits 21 = .ok (.istore 5, 2) := by decide +kernel
theorem dX11_fits_23 : decode cX11_fits 23 = .ok (.iload 5, 2) := by decide +kernel
theorem dX11_fits_25 : decode cX11_fits 25 = .ok (.aload_n 2, 1) := by decide +kernel
theorem dX11_fits_26 : decode cX11_fits 26 = .ok (.invokevirtual 214, 3) := by decide +kernel
theorem dX11_fits_29 : decode cX11_fits 29 = .ok (.if_icmp .gt 46, 3) := by decide +kernel
theorem dX11_fits_32 : decode cX11_fits 32 = .ok (.aload_n 0, 1) := by decide +kernel
theorem dX11_fits_33 : decode cX11_fits 33 = .ok (.getfield 70, 3) := by decide +kernel
theorem dX11_fits_36 : decode cX11_fits 36 = .ok (.aload_n 2, 1) := by decide +kernel
theorem dX11_fits_37 : decode cX11_fits 37 = .ok (.iload 5, 2) := by decide +kernel
theorem dX11_fits_39 : decode cX11_fits 39 = .ok (.invokevirtual 220, 3) := by decide +kernel
theorem dX11_fits_42 : decode cX11_fits 42 = .ok (.aload_n 2, 1) := by decide +kernel
theorem dX11_fits_43 : decode cX11_fits 43 = .ok (.iload 5, 2) := by decide +kernel
theorem dX11_fits_45 : decode cX11_fits 45 = .ok (.invokevirtual 251, 3) := by decide +kernel
theorem dX11_fits_48 : decode cX11_fits 48 = .ok (.invokevirtual 288, 3) := by decide +kernel
theorem dX11_fits_51 : decode cX11_fits 51 = .ok (.ifCond .eq 18, 3) := by decide +kernel
theorem dX11_fits_54 : decode cX11_fits 54 = .ok (.iload 4, 2) := by decide +kernel
theorem dX11_fits_56 : decode cX11_fits 56 = .ok (.ifCond .ne 8, 3) := by decide +kernel
theorem dX11_fits_59 : decode cX11_fits 59 = .ok (.iload 5, 2) := by decide +kernel
theorem dX11_fits_61 : decode cX11_fits 61 = .ok (.goto 4, 3) := by decide +kernel
theorem dX11_fits_64 : decode cX11_fits 64 = .ok (.iload_n 3, 1) := by decide +kernel
theorem dX11_fits_65 : decode cX11_fits 65 = .ok (.istore_n 3, 1) := by decide +kernel
theorem dX11_fits_66 : decode cX11_fits 66 = .ok (.iinc 4 1, 3) := by decide +kernel
theorem dX11_fits_69 : decode cX11_fits 69 = .ok (.iinc 5 1, 3) := by decide +kernel
theorem dX11_fits_72 : decode cX11_fits 72 = .ok (.goto (-49), 3) := by decide +kernel
theorem dX11_fits_75 : decode cX11_fits 75 = .ok (.aload_n 0, 1) := by decide +kernel
theorem dX11_fits_76 : decode cX11_fits 76 = .ok (.getfield 77, 3) := by decide +kernel
theorem dX11_fits_79 : decode cX11_fits 79 = .ok (.invokevirtual 219, 3) := by decide +kernel
theorem dX11_fits_82 : decode cX11_fits 82 = .ok (.iload 4, 2) := by decide +kernel
theorem dX11_fits_84 : decode cX11_fits 84 = .ok (.ifCond .le 12, 3) := by decide +kernel
theorem dX11_fits_87 : decode cX11_fits 87 = .ok (.aload_n 0, 1) := by decide +kernel
theorem dX11_fits_88 : decode cX11_fits 88 = .ok (.getfield 77, 3) := by decide +kernel
theorem dX11_fits_91 : decode cX11_fits 91 = .ok (.iload_n 3, 1) := by decide +kernel
theorem dX11_fits_92 : decode cX11_fits 92 = .ok (.i2l, 1) := by decide +kernel
theorem dX11_fits_93 : decode cX11_fits 93 = .ok (.invokevirtual 223, 3) := by decide +kernel
theorem dX11_fits_96 : decode cX11_fits 96 = .ok (.iload 4, 2) := by decide +kernel
theorem dX11_fits_98 : decode cX11_fits 98 = .ok (.ireturn, 1) := by decide +kernel
theorem dX11_asks_0 : decode cX11_asks 0 = .ok (.iload_n 1, 1) := by decide +kernel
theorem dX11_asks_1 : decode cX11_asks 1 = .ok (.invokestatic 203, 3) := by decide +kernel
theorem dX11_asks_4 : decode cX11_asks 4 = .ok (.ifCond .ne 5, 3) := by decide +kernel
theorem dX11_asks_7 : decode cX11_asks 7 = .ok (.iconst (-1), 1) := by decide +kernel
theorem dX11_asks_8 : decode cX11_asks 8 = .ok (.ireturn, 1) := by decide +kernel
theorem dX11_asks_9 : decode cX11_asks 9 = .ok (.aload_n 0, 1) := by decide +kernel
theorem dX11_asks_10 : decode cX11_asks 10 = .ok (.getfield 70, 3) := by decide +kernel
theorem dX11_asks_13 : decode cX11_asks 13 = .ok (.aload_n 0, 1) := by decide +kernel
theorem dX11_asks_14 : decode cX11_asks 14 = .ok (.iload_n 1, 1) := by decide +kernel
theorem dX11_asks_15 : decode cX11_asks 15 = .ok (.invokevirtual 210, 3) := by decide +kernel
theorem dX11_asks_18 : decode cX11_asks 18 = .ok (.invokevirtual 292, 3) := by decide +kernel
theorem dX11_asks_21 : decode cX11_asks 21 = .ok (.istore_n 2, 1) := by decide +kernel
theorem dX11_asks_22 : decode cX11_asks 22 = .ok (.iload_n 2, 1) := by decide +kernel
theorem dX11_asks_23 : decode cX11_asks 23 = .ok (.ifCond .ne 6, 3) := by decide +kernel
theorem dX11_asks_26 : decode cX11_asks 26 = .ok (.bipush (-2), 2) := by decide +kernel
theorem dX11_asks_28 : decode cX11_asks 28 = .ok (.ireturn, 1) := by decide +kernel
theorem dX11_asks_29 : decode cX11_asks 29 = .ok (.aload_n 0, 1) := by decide +kernel
theorem dX11_asks_30 : decode cX11_asks 30 = .ok (.getfield 70, 3) := by decide +kernel
theorem dX11_asks_33 : decode cX11_asks 33 = .ok (.iload_n 2, 1) := by decide +kernel
theorem dX11_asks_34 : decode cX11_asks 34 = .ok (.invokevirtual 296, 3) := by decide +kernel
theorem dX11_asks_37 : decode cX11_asks 37 = .ok (.istore_n 3, 1) := by decide +kernel
theorem dX11_asks_38 : decode cX11_asks 38 = .ok (.aload_n 0, 1) := by decide +kernel
theorem dX11_asks_39 : decode cX11_asks 39 = .ok (.getfield 77, 3) := by decide +kernel
theorem dX11_asks_42 : decode cX11_asks 42 = .ok (.aload_n 0, 1) := by decide +kernel
theorem dX11_asks_43 : decode cX11_asks 43 = .ok (.getfield 70, 3) := by decide +kernel
theorem dX11_asks_46 : decode cX11_asks 46 = .ok (.iload_n 3, 1) := by decide +kernel
theorem dX11_asks_47 : decode cX11_asks 47 = .ok (.bipush 100, 2) := by decide +kernel
theorem dX11_asks_49 : decode cX11_asks 49 = .ok (.idiv, 1) := by decide +kernel
theorem dX11_asks_50 : decode cX11_asks 50 = .ok (.iload_n 3, 1) := by decide +kernel
theorem dX11_asks_51 : decode cX11_asks 51 = .ok (.bipush 100, 2) := by decide +kernel
theorem dX11_asks_53 : decode cX11_asks 53 = .ok (.irem, 1) := by decide +kernel
theorem dX11_asks_54 : decode cX11_asks 54 = .ok (.iload_n 2, 1) := by decide +kernel
theorem dX11_asks_55 : decode cX11_asks 55 = .ok (.invokevirtual 299, 3) := by decide +kernel
theorem dX11_asks_58 : decode cX11_asks 58 = .ok (.i2l, 1) := by decide +kernel
theorem dX11_asks_59 : decode cX11_asks 59 = .ok (.invokevirtual 192, 3) := by decide +kernel
theorem dX11_asks_62 : decode cX11_asks 62 = .ok (.iload_n 3, 1) := by decide +kernel
theorem dX11_asks_63 : decode cX11_asks 63 = .ok (.ireturn, 1) := by decide +kernel
theorem dX11_odds_0 : decode cX11_odds 0 = .ok (.iload_n 1, 1) := by decide +kernel
theorem dX11_odds_1 : decode cX11_odds 1 = .ok (.invokestatic 203, 3) := by decide +kernel
theorem dX11_odds_4 : decode cX11_odds 4 = .ok (.ifCond .eq 13, 3) := by decide +kernel
theorem dX11_odds_7 : decode cX11_odds 7 = .ok (.iload_n 3, 1) := by decide +kernel
theorem dX11_odds_8 : decode cX11_odds 8 = .ok (.iconst 1, 1) := by decide +kernel
theorem dX11_odds_9 : decode cX11_odds 9 = .ok (.if_icmp .lt 8, 3) := by decide +kernel
theorem dX11_odds_12 : decode cX11_odds 12 = .ok (.iload_n 3, 1) := by decide +kernel
theorem dX11_odds_13 : decode cX11_odds 13 = .ok (.iconst 3, 1) := by decide +kernel
theorem dX11_odds_14 : decode cX11_odds 14 = .ok (.if_icmp .le 5, 3) := by decide +kernel
theorem dX11_odds_17 : decode cX11_odds 17 = .ok (.iconst (-1), 1) := by decide +kernel
theorem dX11_odds_18 : decode cX11_odds 18 = .ok (.ireturn, 1) := by decide +kernel
theorem dX11_odds_19 : decode cX11_odds 19 = .ok (.aload_n 0, 1) := by decide +kernel
theorem dX11_odds_20 : decode cX11_odds 20 = .ok (.iload_n 1, 1) := by decide +kernel
theorem dX11_odds_21 : decode cX11_odds 21 = .ok (.invokevirtual 210, 3) := by decide +kernel
theorem dX11_odds_24 : decode cX11_odds 24 = .ok (.astore 4, 2) := by decide +kernel
theorem dX11_odds_26 : decode cX11_odds 26 = .ok (.aload 4, 2) := by decide +kernel
theorem dX11_odds_28 : decode cX11_odds 28 = .ok (.invokevirtual 214, 3) := by decide +kernel
theorem dX11_odds_31 : decode cX11_odds 31 = .ok (.ifCond .ne 6, 3) := by decide +kernel
theorem dX11_odds_34 : decode cX11_odds 34 = .ok (.bipush (-2), 2) := by decide +kernel
theorem dX11_odds_36 : decode cX11_odds 36 = .ok (.ireturn, 1) := by decide +kernel
theorem dX11_odds_37 : decode cX11_odds 37 = .ok (.aload 4, 2) := by decide +kernel
theorem dX11_odds_39 : decode cX11_odds 39 = .ok (.invokevirtual 214, 3) := by decide +kernel
theorem dX11_odds_42 : decode cX11_odds 42 = .ok (.aload 4, 2) := by decide +kernel
theorem dX11_odds_44 : decode cX11_odds 44 = .ok (.iload_n 2, 1) := by decide +kernel
theorem dX11_odds_45 : decode cX11_odds 45 = .ok (.invokevirtual 226, 3) := by decide +kernel
theorem dX11_odds_48 : decode cX11_odds 48 = .ok (.isub, 1) := by decide +kernel
theorem dX11_odds_49 : decode cX11_odds 49 = .ok (.istore 5, 2) := by decide +kernel
theorem dX11_odds_51 : decode cX11_odds 51 = .ok (.lconst 1, 1) := by decide +kernel
theorem dX11_odds_52 : decode cX11_odds 52 = .ok (.lstore 6, 2) := by decide +kernel
theorem dX11_odds_54 : decode cX11_odds 54 = .ok (.lconst 1, 1) := by decide +kernel
theorem dX11_odds_55 : decode cX11_odds 55 = .ok (.lstore 8, 2) := by decide +kernel
theorem dX11_odds_57 : decode cX11_odds 57 = .ok (.iconst 0, 1) := by decide +kernel
theorem dX11_odds_58 : decode cX11_odds 58 = .ok (.istore 10, 2) := by decide +kernel
theorem dX11_odds_60 : decode cX11_odds 60 = .ok (.iload 10, 2) := by decide +kernel
theorem dX11_odds_62 : decode cX11_odds 62 = .ok (.iload_n 3, 1) := by decide +kernel
theorem dX11_odds_63 : decode cX11_odds 63 = .ok (.if_icmp .ge 28, 3) := by decide +kernel
theorem dX11_odds_66 : decode cX11_odds 66 = .ok (.lload 6, 2) := by decide +kernel
theorem dX11_odds_68 : decode cX11_odds 68 = .ok (.aload 4, 2) := by decide +kernel
theorem dX11_odds_70 : decode cX11_odds 70 = .ok (.invokevirtual 214, 3) := by decide +kernel
theorem dX11_odds_73 : decode cX11_odds 73 = .ok (.i2l, 1) := by decide +kernel
theorem dX11_odds_74 : decode cX11_odds 74 = .ok (.lmul, 1) := by decide +kernel
theorem dX11_odds_75 : decode cX11_odds 75 = .ok (.lstore 6, 2) := by decide +kernel
theorem dX11_odds_77 : decode cX11_odds 77 = .ok (.lload 8, 2) := by decide +kernel
theorem dX11_odds_79 : decode cX11_odds 79 = .ok (.iload 5, 2) := by decide +kernel
theorem dX11_odds_81 : decode cX11_odds 81 = .ok (.i2l, 1) := by decide +kernel
theorem dX11_odds_82 : decode cX11_odds 82 = .ok (.lmul, 1) := by decide +kernel
theorem dX11_odds_83 : decode cX11_odds 83 = .ok (.lstore 8, 2) := by decide +kernel
theorem dX11_odds_85 : decode cX11_odds 85 = .ok (.iinc 10 1, 3) := by decide +kernel
theorem dX11_odds_88 : decode cX11_odds 88 = .ok (.goto (-28), 3) := by decide +kernel
theorem dX11_odds_91 : decode cX11_odds 91 = .ok (.aload_n 0, 1) := by decide +kernel
theorem dX11_odds_92 : decode cX11_odds 92 = .ok (.lload 6, 2) := by decide +kernel
theorem dX11_odds_94 : decode cX11_odds 94 = .ok (.lload 8, 2) := by decide +kernel
theorem dX11_odds_96 : decode cX11_odds 96 = .ok (.lsub, 1) := by decide +kernel
theorem dX11_odds_97 : decode cX11_odds 97 = .ok (.lload 6, 2) := by decide +kernel
theorem dX11_odds_99 : decode cX11_odds 99 = .ok (.invokevirtual 302, 3) := by decide +kernel
theorem dX11_odds_102 : decode cX11_odds 102 = .ok (.iconst 0, 1) := by decide +kernel
theorem dX11_odds_103 : decode cX11_odds 103 = .ok (.ireturn, 1) := by decide +kernel
theorem dX11_duel_0 : decode cX11_duel 0 = .ok (.iload_n 1, 1) := by decide +kernel
theorem dX11_duel_1 : decode cX11_duel 1 = .ok (.ifCond .lt 8, 3) := by decide +kernel
theorem dX11_duel_4 : decode cX11_duel 4 = .ok (.iload_n 1, 1) := by decide +kernel
theorem dX11_duel_5 : decode cX11_duel 5 = .ok (.iconst 4, 1) := by decide +kernel
theorem dX11_duel_6 : decode cX11_duel 6 = .ok (.if_icmp .lt 5, 3) := by decide +kernel
theorem dX11_duel_9 : decode cX11_duel 9 = .ok (.iconst (-1), 1) := by decide +kernel
theorem dX11_duel_10 : decode cX11_duel 10 = .ok (.ireturn, 1) := by decide +kernel
theorem dX11_duel_11 : decode cX11_duel 11 = .ok (.aload_n 0, 1) := by decide +kernel
theorem dX11_duel_12 : decode cX11_duel 12 = .ok (.getfield 19, 3) := by decide +kernel
theorem dX11_duel_15 : decode cX11_duel 15 = .ok (.iload_n 1, 1) := by decide +kernel
theorem dX11_duel_16 : decode cX11_duel 16 = .ok (.invokevirtual 306, 3) := by decide +kernel
theorem dX11_duel_19 : decode cX11_duel 19 = .ok (.iconst 1, 1) := by decide +kernel
theorem dX11_duel_20 : decode cX11_duel 20 = .ok (.isub, 1) := by decide +kernel
theorem dX11_duel_21 : decode cX11_duel 21 = .ok (.istore_n 2, 1) := by decide +kernel
theorem dX11_duel_22 : decode cX11_duel 22 = .ok (.aload_n 0, 1) := by decide +kernel
theorem dX11_duel_23 : decode cX11_duel 23 = .ok (.getfield 77, 3) := by decide +kernel
theorem dX11_duel_26 : decode cX11_duel 26 = .ok (.invokevirtual 219, 3) := by decide +kernel
theorem dX11_duel_29 : decode cX11_duel 29 = .ok (.iload_n 2, 1) := by decide +kernel
theorem dX11_duel_30 : decode cX11_duel 30 = .ok (.ifCond .ge 7, 3) := by decide +kernel
theorem dX11_duel_33 : decode cX11_duel 33 = .ok (.sipush 1000, 3) := by decide +kernel
theorem dX11_duel_36 : decode cX11_duel 36 = .ok (.ireturn, 1) := by decide +kernel
theorem dX11_duel_37 : decode cX11_duel 37 = .ok (.aload_n 0, 1) := by decide +kernel
theorem dX11_duel_38 : decode cX11_duel 38 = .ok (.getfield 19, 3) := by decide +kernel
theorem dX11_duel_41 : decode cX11_duel 41 = .ok (.iload_n 1, 1) := by decide +kernel
theorem dX11_duel_42 : decode cX11_duel 42 = .ok (.iconst 0, 1) := by decide +kernel
theorem dX11_duel_43 : decode cX11_duel 43 = .ok (.invokevirtual 139, 3) := by decide +kernel
theorem dX11_duel_46 : decode cX11_duel 46 = .ok (.aload_n 0, 1) := by decide +kernel
theorem dX11_duel_47 : decode cX11_duel 47 = .ok (.getfield 19, 3) := by decide +kernel
theorem dX11_duel_50 : decode cX11_duel 50 = .ok (.iload_n 1, 1) := by decide +kernel
theorem dX11_duel_51 : decode cX11_duel 51 = .ok (.iconst 1, 1) := by decide +kernel
theorem dX11_duel_52 : decode cX11_duel 52 = .ok (.iload_n 2, 1) := by decide +kernel
theorem dX11_duel_53 : decode cX11_duel 53 = .ok (.invokestatic 309, 3) := by decide +kernel
theorem dX11_duel_56 : decode cX11_duel 56 = .ok (.isub, 1) := by decide +kernel
theorem dX11_duel_57 : decode cX11_duel 57 = .ok (.istore_n 3, 1) := by decide +kernel
theorem dX11_duel_58 : decode cX11_duel 58 = .ok (.aload_n 0, 1) := by decide +kernel
theorem dX11_duel_59 : decode cX11_duel 59 = .ok (.getfield 19, 3) := by decide +kernel
theorem dX11_duel_62 : decode cX11_duel 62 = .ok (.iload_n 1, 1) := by decide +kernel
theorem dX11_duel_63 : decode cX11_duel 63 = .ok (.iload_n 2, 1) := by decide +kernel
theorem dX11_duel_64 : decode cX11_duel 64 = .ok (.invokevirtual 139, 3) := by decide +kernel
theorem dX11_duel_67 : decode cX11_duel 67 = .ok (.aload_n 0, 1) := by decide +kernel
theorem dX11_duel_68 : decode cX11_duel 68 = .ok (.getfield 19, 3) := by decide +kernel
theorem dX11_duel_71 : decode cX11_duel 71 = .ok (.iload_n 1, 1) := by decide +kernel
theorem dX11_duel_72 : decode cX11_duel 72 = .ok (.iconst 0, 1) := by decide +kernel
theorem dX11_duel_73 : decode cX11_duel 73 = .ok (.iload_n 2, 1) := by decide +kernel
theorem dX11_duel_74 : decode cX11_duel 74 = .ok (.iconst 1, 1) := by decide +kernel
theorem dX11_duel_75 : decode cX11_duel 75 = .ok (.isub, 1) := by decide +kernel
theorem dX11_duel_76 : decode cX11_duel 76 = .ok (.invokestatic 309, 3) := by decide +kernel
theorem dX11_duel_79 : decode cX11_duel 79 = .ok (.isub, 1) := by decide +kernel
theorem dX11_duel_80 : decode cX11_duel 80 = .ok (.istore 4, 2) := by decide +kernel
theorem dX11_duel_82 : decode cX11_duel 82 = .ok (.aload_n 0, 1) := by decide +kernel
theorem dX11_duel_83 : decode cX11_duel 83 = .ok (.getfield 77, 3) := by decide +kernel
theorem dX11_duel_86 : decode cX11_duel 86 = .ok (.iload_n 3, 1) := by decide +kernel
theorem dX11_duel_87 : decode cX11_duel 87 = .ok (.iload 4, 2) := by decide +kernel
theorem dX11_duel_89 : decode cX11_duel 89 = .ok (.if_icmp .lt 7, 3) := by decide +kernel
theorem dX11_duel_92 : decode cX11_duel 92 = .ok (.lconst 0, 1) := by decide +kernel
theorem dX11_duel_93 : decode cX11_duel 93 = .ok (.goto 4, 3) := by decide +kernel
theorem dX11_duel_96 : decode cX11_duel 96 = .ok (.lconst 1, 1) := by decide +kernel
theorem dX11_duel_97 : decode cX11_duel 97 = .ok (.invokevirtual 223, 3) := by decide +kernel
theorem dX11_duel_100 : decode cX11_duel 100 = .ok (.sipush 1000, 3) := by decide +kernel
theorem dX11_duel_103 : decode cX11_duel 103 = .ok (.iload_n 3, 1) := by decide +kernel
theorem dX11_duel_104 : decode cX11_duel 104 = .ok (.iload 4, 2) := by decide +kernel
theorem dX11_duel_106 : decode cX11_duel 106 = .ok (.invokestatic 313, 3) := by decide +kernel
theorem dX11_duel_109 : decode cX11_duel 109 = .ok (.iadd, 1) := by decide +kernel
theorem dX11_duel_110 : decode cX11_duel 110 = .ok (.ireturn, 1) := by decide +kernel
theorem dX11_law_0 : decode cX11_law 0 = .ok (.aload_n 0, 1) := by decide +kernel
theorem dX11_law_1 : decode cX11_law 1 = .ok (.getfield 92, 3) := by decide +kernel
theorem dX11_law_4 : decode cX11_law 4 = .ok (.aload_n 0, 1) := by decide +kernel
theorem dX11_law_5 : decode cX11_law 5 = .ok (.getfield 10, 3) := by decide +kernel
theorem dX11_law_8 : decode cX11_law 8 = .ok (.invokevirtual 132, 3) := by decide +kernel
theorem dX11_law_11 : decode cX11_law 11 = .ok (.istore_n 1, 1) := by decide +kernel
theorem dX11_law_12 : decode cX11_law 12 = .ok (.aload_n 0, 1) := by decide +kernel
theorem dX11_law_13 : decode cX11_law 13 = .ok (.getfield 10, 3) := by decide +kernel
theorem dX11_law_16 : decode cX11_law 16 = .ok (.invokevirtual 117, 3) := by decide +kernel
theorem dX11_law_19 : decode cX11_law 19 = .ok (.iload_n 1, 1) := by decide +kernel
theorem dX11_law_20 : decode cX11_law 20 = .ok (.iconst (-1), 1) := by decide +kernel
theorem dX11_law_21 : decode cX11_law 21 = .ok (.if_icmp .eq 9, 3) := by decide +kernel
theorem dX11_law_24 : decode cX11_law 24 = .ok (.sipush (-10000), 3) := by decide +kernel
theorem dX11_law_27 : decode cX11_law 27 = .ok (.iload_n 1, 1) := by decide +kernel
theorem dX11_law_28 : decode cX11_law 28 = .ok (.isub, 1) := by decide +kernel
theorem dX11_law_29 : decode cX11_law 29 = .ok (.ireturn, 1) := by decide +kernel
theorem dX11_law_30 : decode cX11_law 30 = .ok (.aload_n 0, 1) := by decide +kernel
theorem dX11_law_31 : decode cX11_law 31 = .ok (.iconst 0, 1) := by decide +kernel
theorem dX11_law_32 : decode cX11_law 32 = .ok (.invokevirtual 210, 3) := by decide +kernel
theorem dX11_law_35 : decode cX11_law 35 = .ok (.astore_n 2, 1) := by decide +kernel
theorem dX11_law_36 : decode cX11_law 36 = .ok (.ldc2_w 320, 3) := by decide +kernel
theorem dX11_law_39 : decode cX11_law 39 = .ok (.lstore_n 3, 1) := by decide +kernel
theorem dX11_law_40 : decode cX11_law 40 = .ok (.iconst 0, 1) := by decide +kernel
theorem dX11_law_41 : decode cX11_law 41 = .ok (.istore 5, 2) := by decide +kernel
theorem dX11_law_43 : decode cX11_law 43 = .ok (.iconst 1, 1) := by decide +kernel
theorem dX11_law_44 : decode cX11_law 44 = .ok (.istore 6, 2) := by decide +kernel
theorem dX11_law_46 : decode cX11_law 46 = .ok (.iload 6, 2) := by decide +kernel
theorem dX11_law_48 : decode cX11_law 48 = .ok (.aload_n 2, 1) := by decide +kernel
theorem dX11_law_49 : decode cX11_law 49 = .ok (.invokevirtual 214, 3) := by decide +kernel
theorem dX11_law_52 : decode cX11_law 52 = .ok (.if_icmp .gt 55, 3) := by decide +kernel
theorem dX11_law_55 : decode cX11_law 55 = .ok (.aload_n 2, 1) := by decide +kernel
theorem dX11_law_56 : decode cX11_law 56 = .ok (.iload 6, 2) := by decide +kernel
theorem dX11_law_58 : decode cX11_law 58 = .ok (.invokevirtual 251, 3) := by decide +kernel
theorem dX11_law_61 : decode cX11_law 61 = .ok (.lstore 7, 2) := by decide +kernel
theorem dX11_law_63 : decode cX11_law 63 = .ok (.aload_n 0, 1) := by decide +kernel
theorem dX11_law_64 : decode cX11_law 64 = .ok (.getfield 57, 3) := by decide +kernel
theorem dX11_law_67 : decode cX11_law 67 = .ok (.aload_n 0, 1) := by decide +kernel
theorem dX11_law_68 : decode cX11_law 68 = .ok (.getfield 19, 3) := by decide +kernel
theorem dX11_law_71 : decode cX11_law 71 = .ok (.aload_n 0, 1) := by decide +kernel
theorem dX11_law_72 : decode cX11_law 72 = .ok (.getfield 92, 3) := by decide +kernel
theorem dX11_law_75 : decode cX11_law 75 = .ok (.lload 7, 2) := by decide +kernel
theorem dX11_law_77 : decode cX11_law 77 = .ok (.invokevirtual 322, 3) := by decide +kernel
theorem dX11_law_80 : decode cX11_law 80 = .ok (.lload 7, 2) := by decide +kernel
theorem dX11_law_82 : decode cX11_law 82 = .ok (.invokestatic 326, 3) := by decide +kernel
theorem dX11_law_85 : decode cX11_law 85 = .ok (.lstore 9, 2) := by decide +kernel
theorem dX11_law_87 : decode cX11_law 87 = .ok (.lload 9, 2) := by decide +kernel
theorem dX11_law_89 : decode cX11_law 89 = .ok (.lload_n 3, 1) := by decide +kernel
theorem dX11_law_90 : decode cX11_law 90 = .ok (.lcmp, 1) := by decide +kernel
theorem dX11_law_91 : decode cX11_law 91 = .ok (.ifCond .ge 10, 3) := by decide +kernel
theorem dX11_law_94 : decode cX11_law 94 = .ok (.lload 9, 2) := by decide +kernel
theorem dX11_law_96 : decode cX11_law 96 = .ok (.lstore_n 3, 1) := by decide +kernel
theorem dX11_law_97 : decode cX11_law 97 = .ok (.iload 6, 2) := by decide +kernel
theorem dX11_law_99 : decode cX11_law 99 = .ok (.istore 5, 2) := by decide +kernel
theorem dX11_law_101 : decode cX11_law 101 = .ok (.iinc 6 1, 3) := by decide +kernel
theorem dX11_law_104 : decode cX11_law 104 = .ok (.goto (-58), 3) := by decide +kernel
theorem dX11_law_107 : decode cX11_law 107 = .ok (.aload_n 0, 1) := by decide +kernel
theorem dX11_law_108 : decode cX11_law 108 = .ok (.getfield 77, 3) := by decide +kernel
theorem dX11_law_111 : decode cX11_law 111 = .ok (.lload_n 3, 1) := by decide +kernel
theorem dX11_law_112 : decode cX11_law 112 = .ok (.invokestatic 330, 3) := by decide +kernel
theorem dX11_law_115 : decode cX11_law 115 = .ok (.i2l, 1) := by decide +kernel
theorem dX11_law_116 : decode cX11_law 116 = .ok (.invokevirtual 192, 3) := by decide +kernel
theorem dX11_law_119 : decode cX11_law 119 = .ok (.aload_n 0, 1) := by decide +kernel
theorem dX11_law_120 : decode cX11_law 120 = .ok (.getfield 77, 3) := by decide +kernel
theorem dX11_law_123 : decode cX11_law 123 = .ok (.aload_n 2, 1) := by decide +kernel
theorem dX11_law_124 : decode cX11_law 124 = .ok (.iload 5, 2) := by decide +kernel
theorem dX11_law_126 : decode cX11_law 126 = .ok (.invokevirtual 220, 3) := by decide +kernel
theorem dX11_law_129 : decode cX11_law 129 = .ok (.i2l, 1) := by decide +kernel
theorem dX11_law_130 : decode cX11_law 130 = .ok (.invokevirtual 223, 3) := by decide +kernel
theorem dX11_law_133 : decode cX11_law 133 = .ok (.iload 5, 2) := by decide +kernel
theorem dX11_law_135 : decode cX11_law 135 = .ok (.ireturn, 1) := by decide +kernel
theorem dX11_years_0 : decode cX11_years 0 = .ok (.iload_n 2, 1) := by decide +kernel
theorem dX11_years_1 : decode cX11_years 1 = .ok (.iconst 1, 1) := by decide +kernel
theorem dX11_years_2 : decode cX11_years 2 = .ok (.if_icmp .lt 9, 3) := by decide +kernel
theorem dX11_years_5 : decode cX11_years 5 = .ok (.iload_n 2, 1) := by decide +kernel
theorem dX11_years_6 : decode cX11_years 6 = .ok (.bipush 40, 2) := by decide +kernel
theorem dX11_years_8 : decode cX11_years 8 = .ok (.if_icmp .le 5, 3) := by decide +kernel
theorem dX11_years_11 : decode cX11_years 11 = .ok (.iconst (-1), 1) := by decide +kernel
theorem dX11_years_12 : decode cX11_years 12 = .ok (.ireturn, 1) := by decide +kernel
theorem dX11_years_13 : decode cX11_years 13 = .ok (.aload_n 0, 1) := by decide +kernel
theorem dX11_years_14 : decode cX11_years 14 = .ok (.iload_n 1, 1) := by decide +kernel
theorem dX11_years_15 : decode cX11_years 15 = .ok (.putfield 333, 3) := by decide +kernel
theorem dX11_years_18 : decode cX11_years 18 = .ok (.iconst 0, 1) := by decide +kernel
theorem dX11_years_19 : decode cX11_years 19 = .ok (.istore_n 3, 1) := by decide +kernel
theorem dX11_years_20 : decode cX11_years 20 = .ok (.iload_n 3, 1) := by decide +kernel
theorem dX11_years_21 : decode cX11_years 21 = .ok (.iload_n 2, 1) := by decide +kernel
theorem dX11_years_22 : decode cX11_years 22 = .ok (.if_icmp .ge 13, 3) := by decide +kernel
theorem dX11_years_25 : decode cX11_years 25 = .ok (.aload_n 0, 1) := by decide +kernel
theorem dX11_years_26 : decode cX11_years 26 = .ok (.invokevirtual 337, 3) := by decide +kernel
theorem dX11_years_29 : decode cX11_years 29 = .ok (.iinc 3 1, 3) := by decide +kernel
theorem dX11_years_32 : decode cX11_years 32 = .ok (.goto (-12), 3) := by decide +kernel
theorem dX11_years_35 : decode cX11_years 35 = .ok (.aload_n 0, 1) := by decide +kernel
theorem dX11_years_36 : decode cX11_years 36 = .ok (.getfield 77, 3) := by decide +kernel
theorem dX11_years_39 : decode cX11_years 39 = .ok (.aload_n 0, 1) := by decide +kernel
theorem dX11_years_40 : decode cX11_years 40 = .ok (.iconst 1, 1) := by decide +kernel
theorem dX11_years_41 : decode cX11_years 41 = .ok (.invokevirtual 210, 3) := by decide +kernel
theorem dX11_years_44 : decode cX11_years 44 = .ok (.invokevirtual 214, 3) := by decide +kernel
theorem dX11_years_47 : decode cX11_years 47 = .ok (.i2l, 1) := by decide +kernel
theorem dX11_years_48 : decode cX11_years 48 = .ok (.invokevirtual 192, 3) := by decide +kernel
theorem dX11_years_51 : decode cX11_years 51 = .ok (.aload_n 0, 1) := by decide +kernel
theorem dX11_years_52 : decode cX11_years 52 = .ok (.getfield 77, 3) := by decide +kernel
theorem dX11_years_55 : decode cX11_years 55 = .ok (.aload_n 0, 1) := by decide +kernel
theorem dX11_years_56 : decode cX11_years 56 = .ok (.iconst 4, 1) := by decide +kernel
theorem dX11_years_57 : decode cX11_years 57 = .ok (.invokevirtual 210, 3) := by decide +kernel
theorem dX11_years_60 : decode cX11_years 60 = .ok (.invokevirtual 214, 3) := by decide +kernel
theorem dX11_years_63 : decode cX11_years 63 = .ok (.i2l, 1) := by decide +kernel
theorem dX11_years_64 : decode cX11_years 64 = .ok (.invokevirtual 223, 3) := by decide +kernel
theorem dX11_years_67 : decode cX11_years 67 = .ok (.aload_n 0, 1) := by decide +kernel
theorem dX11_years_68 : decode cX11_years 68 = .ok (.getfield 77, 3) := by decide +kernel
theorem dX11_years_71 : decode cX11_years 71 = .ok (.aload_n 0, 1) := by decide +kernel
theorem dX11_years_72 : decode cX11_years 72 = .ok (.iconst 2, 1) := by decide +kernel
theorem dX11_years_73 : decode cX11_years 73 = .ok (.invokevirtual 210, 3) := by decide +kernel
theorem dX11_years_76 : decode cX11_years 76 = .ok (.iconst 1, 1) := by decide +kernel
theorem dX11_years_77 : decode cX11_years 77 = .ok (.invokevirtual 220, 3) := by decide +kernel
theorem dX11_years_80 : decode cX11_years 80 = .ok (.i2l, 1) := by decide +kernel
theorem dX11_years_81 : decode cX11_years 81 = .ok (.invokevirtual 223, 3) := by decide +kernel
theorem dX11_years_84 : decode cX11_years 84 = .ok (.aload_n 0, 1) := by decide +kernel
theorem dX11_years_85 : decode cX11_years 85 = .ok (.iconst 0, 1) := by decide +kernel
theorem dX11_years_86 : decode cX11_years 86 = .ok (.invokevirtual 210, 3) := by decide +kernel
theorem dX11_years_89 : decode cX11_years 89 = .ok (.invokevirtual 214, 3) := by decide +kernel
theorem dX11_years_92 : decode cX11_years 92 = .ok (.ireturn, 1) := by decide +kernel
theorem dX11_keep_0 : decode cX11_keep 0 = .ok (.iload_n 1, 1) := by decide +kernel
theorem dX11_keep_1 : decode cX11_keep 1 = .ok (.ifCond .lt 8, 3) := by decide +kernel
theorem dX11_keep_4 : decode cX11_keep 4 = .ok (.iload_n 1, 1) := by decide +kernel
theorem dX11_keep_5 : decode cX11_keep 5 = .ok (.iconst 2, 1) := by decide +kernel
theorem dX11_keep_6 : decode cX11_keep 6 = .ok (.if_icmp .lt 5, 3) := by decide +kernel
theorem dX11_keep_9 : decode cX11_keep 9 = .ok (.iconst 0, 1) := by decide +kernel
theorem dX11_keep_10 : decode cX11_keep 10 = .ok (.ireturn, 1) := by decide +kernel
theorem dX11_keep_11 : decode cX11_keep 11 = .ok (.aload_n 0, 1) := by decide +kernel
theorem dX11_keep_12 : decode cX11_keep 12 = .ok (.getfield 40, 3) := by decide +kernel
theorem dX11_keep_15 : decode cX11_keep 15 = .ok (.iload_n 1, 1) := by decide +kernel
theorem dX11_keep_16 : decode cX11_keep 16 = .ok (.aaload, 1) := by decide +kernel
theorem dX11_keep_17 : decode cX11_keep 17 = .ok (.aload_n 0, 1) := by decide +kernel
theorem dX11_keep_18 : decode cX11_keep 18 = .ok (.getfield 19, 3) := by decide +kernel
theorem dX11_keep_21 : decode cX11_keep 21 = .ok (.invokevirtual 120, 3) := by decide +kernel
theorem dX11_keep_24 : decode cX11_keep 24 = .ok (.aload_n 0, 1) := by decide +kernel
theorem dX11_keep_25 : decode cX11_keep 25 = .ok (.getfield 44, 3) := by decide +kernel
theorem dX11_keep_28 : decode cX11_keep 28 = .ok (.iload_n 1, 1) := by decide +kernel
theorem dX11_keep_29 : decode cX11_keep 29 = .ok (.iconst 1, 1) := by decide +kernel
theorem dX11_keep_30 : decode cX11_keep 30 = .ok (.bastore, 1) := by decide +kernel
theorem dX11_keep_31 : decode cX11_keep 31 = .ok (.iconst 1, 1) := by decide +kernel
theorem dX11_keep_32 : decode cX11_keep 32 = .ok (.ireturn, 1) := by decide +kernel
theorem dX11_again_0 : decode cX11_again 0 = .ok (.iload_n 1, 1) := by decide +kernel
theorem dX11_again_1 : decode cX11_again 1 = .ok (.ifCond .lt 17, 3) := by decide +kernel
theorem dX11_again_4 : decode cX11_again 4 = .ok (.iload_n 1, 1) := by decide +kernel
theorem dX11_again_5 : decode cX11_again 5 = .ok (.iconst 2, 1) := by decide +kernel
theorem dX11_again_6 : decode cX11_again 6 = .ok (.if_icmp .ge 12, 3) := by decide +kernel
theorem dX11_again_9 : decode cX11_again 9 = .ok (.aload_n 0, 1) := by decide +kernel
theorem dX11_again_10 : decode cX11_again 10 = .ok (.getfield 44, 3) := by decide +kernel
theorem dX11_again_13 : decode cX11_again 13 = .ok (.iload_n 1, 1) := by decide +kernel
theorem dX11_again_14 : decode cX11_again 14 = .ok (.baload, 1) := by decide +kernel
theorem dX11_again_15 : decode cX11_again 15 = .ok (.ifCond .ne 5, 3) := by decide +kernel
theorem dX11_again_18 : decode cX11_again 18 = .ok (.iconst 0, 1) := by decide +kernel
theorem dX11_again_19 : decode cX11_again 19 = .ok (.ireturn, 1) := by decide +kernel
theorem dX11_again_20 : decode cX11_again 20 = .ok (.aload_n 0, 1) := by decide +kernel
theorem dX11_again_21 : decode cX11_again 21 = .ok (.getfield 19, 3) := by decide +kernel
theorem dX11_again_24 : decode cX11_again 24 = .ok (.aload_n 0, 1) := by decide +kernel
theorem dX11_again_25 : decode cX11_again 25 = .ok (.getfield 40, 3) := by decide +kernel
theorem dX11_again_28 : decode cX11_again 28 = .ok (.iload_n 1, 1) := by decide +kernel
theorem dX11_again_29 : decode cX11_again 29 = .ok (.aaload, 1) := by decide +kernel
theorem dX11_again_30 : decode cX11_again 30 = .ok (.invokevirtual 120, 3) := by decide +kernel
theorem dX11_again_33 : decode cX11_again 33 = .ok (.aload_n 0, 1) := by decide +kernel
theorem dX11_again_34 : decode cX11_again 34 = .ok (.getfield 36, 3) := by decide +kernel
theorem dX11_again_37 : decode cX11_again 37 = .ok (.invokevirtual 340, 3) := by decide +kernel
theorem dX11_again_40 : decode cX11_again 40 = .ok (.aload_n 0, 1) := by decide +kernel
theorem dX11_again_41 : decode cX11_again 41 = .ok (.invokevirtual 136, 3) := by decide +kernel
theorem dX11_again_44 : decode cX11_again 44 = .ok (.iconst 1, 1) := by decide +kernel
theorem dX11_again_45 : decode cX11_again 45 = .ok (.ireturn, 1) := by decide +kernel
theorem dX11_count_0 : decode cX11_count 0 = .ok (.iload_n 1, 1) := by decide +kernel
theorem dX11_count_1 : decode cX11_count 1 = .ok (.tableswitch 135 0 9 #[55, 63, 71, 79, 87, 95, 103, 111, 119, 127], 55) := by decide +kernel
theorem dX11_count_56 : decode cX11_count 56 = .ok (.aload_n 0, 1) := by decide +kernel
theorem dX11_count_57 : decode cX11_count 57 = .ok (.getfield 19, 3) := by decide +kernel
theorem dX11_count_60 : decode cX11_count 60 = .ok (.invokevirtual 341, 3) := by decide +kernel
theorem dX11_count_63 : decode cX11_count 63 = .ok (.ireturn, 1) := by decide +kernel
theorem dX11_count_64 : decode cX11_count 64 = .ok (.aload_n 0, 1) := by decide +kernel
theorem dX11_count_65 : decode cX11_count 65 = .ok (.getfield 19, 3) := by decide +kernel
theorem dX11_count_68 : decode cX11_count 68 = .ok (.invokevirtual 344, 3) := by decide +kernel
theorem dX11_count_71 : decode cX11_count 71 = .ok (.ireturn, 1) := by decide +kernel
theorem dX11_count_72 : decode cX11_count 72 = .ok (.aload_n 0, 1) := by decide +kernel
theorem dX11_count_73 : decode cX11_count 73 = .ok (.getfield 19, 3) := by decide +kernel
theorem dX11_count_76 : decode cX11_count 76 = .ok (.invokevirtual 347, 3) := by decide +kernel
theorem dX11_count_79 : decode cX11_count 79 = .ok (.ireturn, 1) := by decide +kernel
theorem dX11_count_80 : decode cX11_count 80 = .ok (.aload_n 0, 1) := by decide +kernel
theorem dX11_count_81 : decode cX11_count 81 = .ok (.getfield 19, 3) := by decide +kernel
theorem dX11_count_84 : decode cX11_count 84 = .ok (.invokevirtual 348, 3) := by decide +kernel
theorem dX11_count_87 : decode cX11_count 87 = .ok (.ireturn, 1) := by decide +kernel
theorem dX11_count_88 : decode cX11_count 88 = .ok (.aload_n 0, 1) := by decide +kernel
theorem dX11_count_89 : decode cX11_count 89 = .ok (.getfield 19, 3) := by decide +kernel
theorem dX11_count_92 : decode cX11_count 92 = .ok (.invokevirtual 351, 3) := by decide +kernel
theorem dX11_count_95 : decode cX11_count 95 = .ok (.ireturn, 1) := by decide +kernel
theorem dX11_count_96 : decode cX11_count 96 = .ok (.aload_n 0, 1) := by decide +kernel
theorem dX11_count_97 : decode cX11_count 97 = .ok (.getfield 70, 3) := by decide +kernel
theorem dX11_count_100 : decode cX11_count 100 = .ok (.invokevirtual 286, 3) := by decide +kernel
theorem dX11_count_103 : decode cX11_count 103 = .ok (.ireturn, 1) := by decide +kernel
theorem dX11_count_104 : decode cX11_count 104 = .ok (.aload_n 0, 1) := by decide +kernel
theorem dX11_count_105 : decode cX11_count 105 = .ok (.getfield 36, 3) := by decide +kernel
theorem dX11_count_108 : decode cX11_count 108 = .ok (.invokevirtual 200, 3) := by decide +kernel
theorem dX11_count_111 : decode cX11_count 111 = .ok (.ireturn, 1) := by decide +kernel
theorem dX11_count_112 : decode cX11_count 112 = .ok (.aload_n 0, 1) := by decide +kernel
theorem dX11_count_113 : decode cX11_count 113 = .ok (.getfield 77, 3) := by decide +kernel
theorem dX11_count_116 : decode cX11_count 116 = .ok (.invokevirtual 354, 3) := by decide +kernel
theorem dX11_count_119 : decode cX11_count 119 = .ok (.ireturn, 1) := by decide +kernel
theorem dX11_count_120 : decode cX11_count 120 = .ok (.aload_n 0, 1) := by decide +kernel
theorem dX11_count_121 : decode cX11_count 121 = .ok (.getfield 10, 3) := by decide +kernel
theorem dX11_count_124 : decode cX11_count 124 = .ok (.invokevirtual 106, 3) := by decide +kernel
theorem dX11_count_127 : decode cX11_count 127 = .ok (.ireturn, 1) := by decide +kernel
theorem dX11_count_128 : decode cX11_count 128 = .ok (.aload_n 0, 1) := by decide +kernel
theorem dX11_count_129 : decode cX11_count 129 = .ok (.getfield 19, 3) := by decide +kernel
theorem dX11_count_132 : decode cX11_count 132 = .ok (.invokevirtual 355, 3) := by decide +kernel
theorem dX11_count_135 : decode cX11_count 135 = .ok (.ireturn, 1) := by decide +kernel
theorem dX11_count_136 : decode cX11_count 136 = .ok (.iconst (-1), 1) := by decide +kernel
theorem dX11_count_137 : decode cX11_count 137 = .ok (.ireturn, 1) := by decide +kernel
theorem dX11_row_0 : decode cX11_row 0 = .ok (.iload_n 1, 1) := by decide +kernel
theorem dX11_row_1 : decode cX11_row 1 = .ok (.ifCond .lt 14, 3) := by decide +kernel
theorem dX11_row_4 : decode cX11_row 4 = .ok (.iload_n 1, 1) := by decide +kernel
theorem dX11_row_5 : decode cX11_row 5 = .ok (.aload_n 0, 1) := by decide +kernel
theorem dX11_row_6 : decode cX11_row 6 = .ok (.getfield 77, 3) := by decide +kernel
theorem dX11_row_9 : decode cX11_row 9 = .ok (.invokevirtual 354, 3) := by decide +kernel
theorem dX11_row_12 : decode cX11_row 12 = .ok (.if_icmp .lt 14, 3) := by decide +kernel
theorem dX11_row_15 : decode cX11_row 15 = .ok (.new 143, 3) := by decide +kernel
theorem dX11_row_18 : decode cX11_row 18 = .ok (.dup, 1) := by decide +kernel
theorem dX11_row_19 : decode cX11_row 19 = .ok (.ldc_w 358, 3) := by decide +kernel
theorem dX11_row_22 : decode cX11_row 22 = .ok (.invokespecial 147, 3) := by decide +kernel
theorem dX11_row_25 : decode cX11_row 25 = .ok (.athrow, 1) := by decide +kernel
theorem dX11_row_26 : decode cX11_row 26 = .ok (.aload_n 0, 1) := by decide +kernel
theorem dX11_row_27 : decode cX11_row 27 = .ok (.getfield 77, 3) := by decide +kernel
theorem dX11_row_30 : decode cX11_row 30 = .ok (.iload_n 1, 1) := by decide +kernel
theorem dX11_row_31 : decode cX11_row 31 = .ok (.invokevirtual 360, 3) := by decide +kernel
theorem dX11_row_34 : decode cX11_row 34 = .ok (.lreturn, 1) := by decide +kernel
theorem dX11_isKind_0 : decode cX11_isKind 0 = .ok (.iload_n 0, 1) := by decide +kernel
theorem dX11_isKind_1 : decode cX11_isKind 1 = .ok (.ifCond .lt 12, 3) := by decide +kernel
theorem dX11_isKind_4 : decode cX11_isKind 4 = .ok (.iload_n 0, 1) := by decide +kernel
theorem dX11_isKind_5 : decode cX11_isKind 5 = .ok (.iconst 5, 1) := by decide +kernel
theorem dX11_isKind_6 : decode cX11_isKind 6 = .ok (.if_icmp .ge 7, 3) := by decide +kernel
theorem dX11_isKind_9 : decode cX11_isKind 9 = .ok (.iconst 1, 1) := by decide +kernel
theorem dX11_isKind_10 : decode cX11_isKind 10 = .ok (.goto 4, 3) := by decide +kernel
theorem dX11_isKind_13 : decode cX11_isKind 13 = .ok (.iconst 0, 1) := by decide +kernel
theorem dX11_isKind_14 : decode cX11_isKind 14 = .ok (.ireturn, 1) := by decide +kernel
theorem dX11_isPlace_0 : decode cX11_isPlace 0 = .ok (.iload_n 0, 1) := by decide +kernel
theorem dX11_isPlace_1 : decode cX11_isPlace 1 = .ok (.iconst 1, 1) := by decide +kernel
theorem dX11_isPlace_2 : decode cX11_isPlace 2 = .ok (.if_icmp .lt 12, 3) := by decide +kernel
theorem dX11_isPlace_5 : decode cX11_isPlace 5 = .ok (.iload_n 0, 1) := by decide +kernel
theorem dX11_isPlace_6 : decode cX11_isPlace 6 = .ok (.iload_n 1, 1) := by decide +kernel
theorem dX11_isPlace_7 : decode cX11_isPlace 7 = .ok (.if_icmp .gt 7, 3) := by decide +kernel
theorem dX11_isPlace_10 : decode cX11_isPlace 10 = .ok (.iconst 1, 1) := by decide +kernel
theorem dX11_isPlace_11 : decode cX11_isPlace 11 = .ok (.goto 4, 3) := by decide +kernel
theorem dX11_isPlace_14 : decode cX11_isPlace 14 = .ok (.iconst 0, 1) := by decide +kernel
theorem dX11_isPlace_15 : decode cX11_isPlace 15 = .ok (.ireturn, 1) := by decide +kernel
theorem dX11_settled_0 : decode cX11_settled 0 = .ok (.iload_n 1, 1) := by decide +kernel
theorem dX11_settled_1 : decode cX11_settled 1 = .ok (.ifCond .lt 18, 3) := by decide +kernel
theorem dX11_settled_4 : decode cX11_settled 4 = .ok (.aload_n 0, 1) := by decide +kernel
theorem dX11_settled_5 : decode cX11_settled 5 = .ok (.getfield 36, 3) := by decide +kernel
theorem dX11_settled_8 : decode cX11_settled 8 = .ok (.aload_n 0, 1) := by decide +kernel
theorem dX11_settled_9 : decode cX11_settled 9 = .ok (.getfield 23, 3) := by decide +kernel
theorem dX11_settled_12 : decode cX11_settled 12 = .ok (.invokevirtual 363, 3) := by decide +kernel
theorem dX11_settled_15 : decode cX11_settled 15 = .ok (.aload_n 0, 1) := by decide +kernel
theorem dX11_settled_16 : decode cX11_settled 16 = .ok (.invokevirtual 136, 3) := by decide +kernel
theorem dX11_settled_19 : decode cX11_settled 19 = .ok (.iload_n 1, 1) := by decide +kernel
theorem dX11_settled_20 : decode cX11_settled 20 = .ok (.ireturn, 1) := by decide +kernel
theorem dX11_changed_0 : decode cX11_changed 0 = .ok (.iconst 0, 1) := by decide +kernel
theorem dX11_changed_1 : decode cX11_changed 1 = .ok (.istore_n 1, 1) := by decide +kernel
theorem dX11_changed_2 : decode cX11_changed 2 = .ok (.iload_n 1, 1) := by decide +kernel
theorem dX11_changed_3 : decode cX11_changed 3 = .ok (.iconst 5, 1) := by decide +kernel
theorem dX11_changed_4 : decode cX11_changed 4 = .ok (.if_icmp .ge 18, 3) := by decide +kernel
theorem dX11_changed_7 : decode cX11_changed 7 = .ok (.aload_n 0, 1) := by decide +kernel
theorem dX11_changed_8 : decode cX11_changed 8 = .ok (.getfield 50, 3) := by decide +kernel
theorem dX11_changed_11 : decode cX11_changed 11 = .ok (.iload_n 1, 1) := by decide +kernel
theorem dX11_changed_12 : decode cX11_changed 12 = .ok (.aaload, 1) := by decide +kernel
theorem dX11_changed_13 : decode cX11_changed 13 = .ok (.invokevirtual 365, 3) := by decide +kernel
theorem dX11_changed_16 : decode cX11_changed 16 = .ok (.iinc 1 1, 3) := by decide +kernel
theorem dX11_changed_19 : decode cX11_changed 19 = .ok (.goto (-17), 3) := by decide +kernel
theorem dX11_changed_22 : decode cX11_changed 22 = .ok (.iconst 0, 1) := by decide +kernel
theorem dX11_changed_23 : decode cX11_changed 23 = .ok (.istore_n 1, 1) := by decide +kernel
theorem dX11_changed_24 : decode cX11_changed 24 = .ok (.iload_n 1, 1) := by decide +kernel
theorem dX11_changed_25 : decode cX11_changed 25 = .ok (.iconst 3, 1) := by decide +kernel
theorem dX11_changed_26 : decode cX11_changed 26 = .ok (.if_icmp .ge 18, 3) := by decide +kernel
theorem dX11_changed_29 : decode cX11_changed 29 = .ok (.aload_n 0, 1) := by decide +kernel
theorem dX11_changed_30 : decode cX11_changed 30 = .ok (.getfield 63, 3) := by decide +kernel
theorem dX11_changed_33 : decode cX11_changed 33 = .ok (.iload_n 1, 1) := by decide +kernel
theorem dX11_changed_34 : decode cX11_changed 34 = .ok (.aaload, 1) := by decide +kernel
theorem dX11_changed_35 : decode cX11_changed 35 = .ok (.invokevirtual 368, 3) := by decide +kernel
theorem dX11_changed_38 : decode cX11_changed 38 = .ok (.iinc 1 1, 3) := by decide +kernel
theorem dX11_changed_41 : decode cX11_changed 41 = .ok (.goto (-17), 3) := by decide +kernel
theorem dX11_changed_44 : decode cX11_changed 44 = .ok (.return_, 1) := by decide +kernel
theorem dX11_orderOf_0 : decode cX11_orderOf 0 = .ok (.aload_n 0, 1) := by decide +kernel
theorem dX11_orderOf_1 : decode cX11_orderOf 1 = .ok (.getfield 50, 3) := by decide +kernel
theorem dX11_orderOf_4 : decode cX11_orderOf 4 = .ok (.iload_n 1, 1) := by decide +kernel
theorem dX11_orderOf_5 : decode cX11_orderOf 5 = .ok (.aaload, 1) := by decide +kernel
theorem dX11_orderOf_6 : decode cX11_orderOf 6 = .ok (.astore_n 2, 1) := by decide +kernel
theorem dX11_orderOf_7 : decode cX11_orderOf 7 = .ok (.aload_n 2, 1) := by decide +kernel
theorem dX11_orderOf_8 : decode cX11_orderOf 8 = .ok (.invokevirtual 369, 3) := by decide +kernel
theorem dX11_orderOf_11 : decode cX11_orderOf 11 = .ok (.ifCond .ne 28, 3) := by decide +kernel
theorem dX11_orderOf_14 : decode cX11_orderOf 14 = .ok (.aload_n 2, 1) := by decide +kernel
theorem dX11_orderOf_15 : decode cX11_orderOf 15 = .ok (.invokevirtual 372, 3) := by decide +kernel
theorem dX11_orderOf_18 : decode cX11_orderOf 18 = .ok (.aload_n 0, 1) := by decide +kernel
theorem dX11_orderOf_19 : decode cX11_orderOf 19 = .ok (.getfield 57, 3) := by decide +kernel
theorem dX11_orderOf_22 : decode cX11_orderOf 22 = .ok (.iload_n 1, 1) := by decide +kernel
theorem dX11_orderOf_23 : decode cX11_orderOf 23 = .ok (.aload_n 0, 1) := by decide +kernel
theorem dX11_orderOf_24 : decode cX11_orderOf 24 = .ok (.getfield 19, 3) := by decide +kernel
theorem dX11_orderOf_27 : decode cX11_orderOf 27 = .ok (.aload_n 0, 1) := by decide +kernel
theorem dX11_orderOf_28 : decode cX11_orderOf 28 = .ok (.getfield 88, 3) := by decide +kernel
theorem dX11_orderOf_31 : decode cX11_orderOf 31 = .ok (.aload_n 2, 1) := by decide +kernel
theorem dX11_orderOf_32 : decode cX11_orderOf 32 = .ok (.invokevirtual 373, 3) := by decide +kernel
theorem dX11_orderOf_35 : decode cX11_orderOf 35 = .ok (.aload_n 2, 1) := by decide +kernel
theorem dX11_orderOf_36 : decode cX11_orderOf 36 = .ok (.invokevirtual 377, 3) := by decide +kernel
theorem dX11_orderOf_39 : decode cX11_orderOf 39 = .ok (.aload_n 2, 1) := by decide +kernel
theorem dX11_orderOf_40 : decode cX11_orderOf 40 = .ok (.areturn, 1) := by decide +kernel
theorem dX11_tellOne_0 : decode cX11_tellOne 0 = .ok (.aload_n 1, 1) := by decide +kernel
theorem dX11_tellOne_1 : decode cX11_tellOne 1 = .ok (.iload_n 2, 1) := by decide +kernel
theorem dX11_tellOne_2 : decode cX11_tellOne 2 = .ok (.invokevirtual 251, 3) := by decide +kernel
theorem dX11_tellOne_5 : decode cX11_tellOne 5 = .ok (.lstore_n 3, 1) := by decide +kernel
theorem dX11_tellOne_6 : decode cX11_tellOne 6 = .ok (.lload_n 3, 1) := by decide +kernel
theorem dX11_tellOne_7 : decode cX11_tellOne 7 = .ok (.invokestatic 380, 3) := by decide +kernel
theorem dX11_tellOne_10 : decode cX11_tellOne 10 = .ok (.istore 5, 2) := by decide +kernel
theorem dX11_tellOne_12 : decode cX11_tellOne 12 = .ok (.aload_n 0, 1) := by decide +kernel
theorem dX11_tellOne_13 : decode cX11_tellOne 13 = .ok (.getfield 77, 3) := by decide +kernel
theorem dX11_tellOne_16 : decode cX11_tellOne 16 = .ok (.aload_n 1, 1) := by decide +kernel
theorem dX11_tellOne_17 : decode cX11_tellOne 17 = .ok (.iload_n 2, 1) := by decide +kernel
theorem dX11_tellOne_18 : decode cX11_tellOne 18 = .ok (.invokevirtual 220, 3) := by decide +kernel
theorem dX11_tellOne_21 : decode cX11_tellOne 21 = .ok (.i2l, 1) := by decide +kernel
theorem dX11_tellOne_22 : decode cX11_tellOne 22 = .ok (.invokevirtual 192, 3) := by decide +kernel
theorem dX11_tellOne_25 : decode cX11_tellOne 25 = .ok (.iconst 0, 1) := by decide +kernel
theorem dX11_tellOne_26 : decode cX11_tellOne 26 = .ok (.istore 6, 2) := by decide +kernel
theorem dX11_tellOne_28 : decode cX11_tellOne 28 = .ok (.iload 6, 2) := by decide +kernel
theorem dX11_tellOne_30 : decode cX11_tellOne 30 = .ok (.iload 5, 2) := by decide +kernel
theorem dX11_tellOne_32 : decode cX11_tellOne 32 = .ok (.if_icmp .ge 23, 3) := by decide +kernel
theorem dX11_tellOne_35 : decode cX11_tellOne 35 = .ok (.aload_n 0, 1) := by decide +kernel
theorem dX11_tellOne_36 : decode cX11_tellOne 36 = .ok (.getfield 77, 3) := by decide +kernel
theorem dX11_tellOne_39 : decode cX11_tellOne 39 = .ok (.lload_n 3, 1) := by decide +kernel
theorem dX11_tellOne_40 : decode cX11_tellOne 40 = .ok (.iload 6, 2) := by decide +kernel
theorem dX11_tellOne_42 : decode cX11_tellOne 42 = .ok (.invokestatic 255, 3) := by decide +kernel
theorem dX11_tellOne_45 : decode cX11_tellOne 45 = .ok (.i2l, 1) := by decide +kernel
theorem dX11_tellOne_46 : decode cX11_tellOne 46 = .ok (.invokevirtual 223, 3) := by decide +kernel
theorem dX11_tellOne_49 : decode cX11_tellOne 49 = .ok (.iinc 6 1, 3) := by decide +kernel
theorem dX11_tellOne_52 : decode cX11_tellOne 52 = .ok (.goto (-24), 3) := by decide +kernel
theorem dX11_tellOne_55 : decode cX11_tellOne 55 = .ok (.iload 5, 2) := by decide +kernel
theorem dX11_tellOne_57 : decode cX11_tellOne 57 = .ok (.ireturn, 1) := by decide +kernel
theorem dX11_tellFraction_0 : decode cX11_tellFraction 0 = .ok (.lload_n 3, 1) := by decide +kernel
theorem dX11_tellFraction_1 : decode cX11_tellFraction 1 = .ok (.lstore 5, 2) := by decide +kernel
theorem dX11_tellFraction_3 : decode cX11_tellFraction 3 = .ok (.lload_n 1, 1) := by decide +kernel
theorem dX11_tellFraction_4 : decode cX11_tellFraction 4 = .ok (.lstore 7, 2) := by decide +kernel
theorem dX11_tellFraction_6 : decode cX11_tellFraction 6 = .ok (.iconst 0, 1) := by decide +kernel
theorem dX11_tellFraction_7 : decode cX11_tellFraction 7 = .ok (.istore 9, 2) := by decide +kernel
theorem dX11_tellFraction_9 : decode cX11_tellFraction 9 = .ok (.iload 9, 2) := by decide +kernel
theorem dX11_tellFraction_11 : decode cX11_tellFraction 11 = .ok (.bipush 100, 2) := by decide +kernel
theorem dX11_tellFraction_13 : decode cX11_tellFraction 13 = .ok (.if_icmp .ge 31, 3) := by decide +kernel
theorem dX11_tellFraction_16 : decode cX11_tellFraction 16 = .ok (.lload 7, 2) := by decide +kernel
theorem dX11_tellFraction_18 : decode cX11_tellFraction 18 = .ok (.lconst 0, 1) := by decide +kernel
theorem dX11_tellFraction_19 : decode cX11_tellFraction 19 = .ok (.lcmp, 1) := by decide +kernel
theorem dX11_tellFraction_20 : decode cX11_tellFraction 20 = .ok (.ifCond .eq 24, 3) := by decide +kernel
theorem dX11_tellFraction_23 : decode cX11_tellFraction 23 = .ok (.lload 5, 2) := by decide +kernel
theorem dX11_tellFraction_25 : decode cX11_tellFraction 25 = .ok (.lload 7, 2) := by decide +kernel
theorem dX11_tellFraction_27 : decode cX11_tellFraction 27 = .ok (.lrem, 1) := by decide +kernel
theorem dX11_tellFraction_28 : decode cX11_tellFraction 28 = .ok (.lstore 10, 2) := by decide +kernel
theorem dX11_tellFraction_30 : decode cX11_tellFraction 30 = .ok (.lload 7, 2) := by decide +kernel
theorem dX11_tellFraction_32 : decode cX11_tellFraction 32 = .ok (.lstore 5, 2) := by decide +kernel
theorem dX11_tellFraction_34 : decode cX11_tellFraction 34 = .ok (.lload 10, 2) := by decide +kernel
theorem dX11_tellFraction_36 : decode cX11_tellFraction 36 = .ok (.lstore 7, 2) := by decide +kernel
theorem dX11_tellFraction_38 : decode cX11_tellFraction 38 = .ok (.iinc 9 1, 3) := by decide +kernel
theorem dX11_tellFraction_41 : decode cX11_tellFraction 41 = .ok (.goto (-32), 3) := by decide +kernel
theorem dX11_tellFraction_44 : decode cX11_tellFraction 44 = .ok (.lload 5, 2) := by decide +kernel
theorem dX11_tellFraction_46 : decode cX11_tellFraction 46 = .ok (.lconst 0, 1) := by decide +kernel
theorem dX11_tellFraction_47 : decode cX11_tellFraction 47 = .ok (.lcmp, 1) := by decide +kernel
theorem dX11_tellFraction_48 : decode cX11_tellFraction 48 = .ok (.ifCond .ne 7, 3) := by decide +kernel
theorem dX11_tellFraction_51 : decode cX11_tellFraction 51 = .ok (.lconst 1, 1) := by decide +kernel
theorem dX11_tellFraction_52 : decode cX11_tellFraction 52 = .ok (.goto 5, 3) := by decide +kernel
theorem dX11_tellFraction_55 : decode cX11_tellFraction 55 = .ok (.lload 5, 2) := by decide +kernel
theorem dX11_tellFraction_57 : decode cX11_tellFraction 57 = .ok (.lstore 9, 2) := by decide +kernel
theorem dX11_tellFraction_59 : decode cX11_tellFraction 59 = .ok (.aload_n 0, 1) := by decide +kernel
theorem dX11_tellFraction_60 : decode cX11_tellFraction 60 = .ok (.getfield 77, 3) := by decide +kernel
theorem dX11_tellFraction_63 : decode cX11_tellFraction 63 = .ok (.lload_n 1, 1) := by decide +kernel
theorem dX11_tellFraction_64 : decode cX11_tellFraction 64 = .ok (.lload 9, 2) := by decide +kernel
theorem dX11_tellFraction_66 : decode cX11_tellFraction 66 = .ok (.ldiv, 1) := by decide +kernel
theorem dX11_tellFraction_67 : decode cX11_tellFraction 67 = .ok (.invokevirtual 192, 3) := by decide +kernel
theorem dX11_tellFraction_70 : decode cX11_tellFraction 70 = .ok (.aload_n 0, 1) := by decide +kernel
theorem dX11_tellFraction_71 : decode cX11_tellFraction 71 = .ok (.getfield 77, 3) := by decide +kernel
theorem dX11_tellFraction_74 : decode cX11_tellFraction 74 = .ok (.lload_n 3, 1) := by decide +kernel
theorem dX11_tellFraction_75 : decode cX11_tellFraction 75 = .ok (.lload 9, 2) := by decide +kernel
theorem dX11_tellFraction_77 : decode cX11_tellFraction 77 = .ok (.ldiv, 1) := by decide +kernel
theorem dX11_tellFraction_78 : decode cX11_tellFraction 78 = .ok (.invokevirtual 223, 3) := by decide +kernel
theorem dX11_tellFraction_81 : decode cX11_tellFraction 81 = .ok (.return_, 1) := by decide +kernel
theorem dX11_lead_0 : decode cX11_lead 0 = .ok (.iload_n 2, 1) := by decide +kernel
theorem dX11_lead_1 : decode cX11_lead 1 = .ok (.iload_n 3, 1) := by decide +kernel
theorem dX11_lead_2 : decode cX11_lead 2 = .ok (.if_icmp .le 5, 3) := by decide +kernel
theorem dX11_lead_5 : decode cX11_lead 5 = .ok (.iconst 0, 1) := by decide +kernel
theorem dX11_lead_6 : decode cX11_lead 6 = .ok (.ireturn, 1) := by decide +kernel
theorem dX11_lead_7 : decode cX11_lead 7 = .ok (.aload_n 0, 1) := by decide +kernel
theorem dX11_lead_8 : decode cX11_lead 8 = .ok (.iload_n 1, 1) := by decide +kernel
theorem dX11_lead_9 : decode cX11_lead 9 = .ok (.iload_n 2, 1) := by decide +kernel
theorem dX11_lead_10 : decode cX11_lead 10 = .ok (.invokevirtual 139, 3) := by decide +kernel
theorem dX11_lead_13 : decode cX11_lead 13 = .ok (.aload_n 0, 1) := by decide +kernel
theorem dX11_lead_14 : decode cX11_lead 14 = .ok (.iload_n 1, 1) := by decide +kernel
theorem dX11_lead_15 : decode cX11_lead 15 = .ok (.iload_n 2, 1) := by decide +kernel
theorem dX11_lead_16 : decode cX11_lead 16 = .ok (.iconst 1, 1) := by decide +kernel
theorem dX11_lead_17 : decode cX11_lead 17 = .ok (.iadd, 1) := by decide +kernel
theorem dX11_lead_18 : decode cX11_lead 18 = .ok (.iload_n 3, 1) := by decide +kernel
theorem dX11_lead_19 : decode cX11_lead 19 = .ok (.invokestatic 309, 3) := by decide +kernel
theorem dX11_lead_22 : decode cX11_lead 22 = .ok (.isub, 1) := by decide +kernel
theorem dX11_lead_23 : decode cX11_lead 23 = .ok (.istore 4, 2) := by decide +kernel
theorem dX11_lead_25 : decode cX11_lead 25 = .ok (.aload_n 0, 1) := by decide +kernel
theorem dX11_lead_26 : decode cX11_lead 26 = .ok (.iload_n 1, 1) := by decide +kernel
theorem dX11_lead_27 : decode cX11_lead 27 = .ok (.iload_n 3, 1) := by decide +kernel
theorem dX11_lead_28 : decode cX11_lead 28 = .ok (.invokevirtual 139, 3) := by decide +kernel
theorem dX11_lead_31 : decode cX11_lead 31 = .ok (.aload_n 0, 1) := by decide +kernel
theorem dX11_lead_32 : decode cX11_lead 32 = .ok (.iload_n 1, 1) := by decide +kernel
theorem dX11_lead_33 : decode cX11_lead 33 = .ok (.iload_n 2, 1) := by decide +kernel
theorem dX11_lead_34 : decode cX11_lead 34 = .ok (.iload_n 3, 1) := by decide +kernel
theorem dX11_lead_35 : decode cX11_lead 35 = .ok (.iconst 1, 1) := by decide +kernel
theorem dX11_lead_36 : decode cX11_lead 36 = .ok (.isub, 1) := by decide +kernel
theorem dX11_lead_37 : decode cX11_lead 37 = .ok (.invokestatic 309, 3) := by decide +kernel
theorem dX11_lead_40 : decode cX11_lead 40 = .ok (.isub, 1) := by decide +kernel
theorem dX11_lead_41 : decode cX11_lead 41 = .ok (.istore 5, 2) := by decide +kernel
theorem dX11_lead_43 : decode cX11_lead 43 = .ok (.iload 4, 2) := by decide +kernel
theorem dX11_lead_45 : decode cX11_lead 45 = .ok (.iload 5, 2) := by decide +kernel
theorem dX11_lead_47 : decode cX11_lead 47 = .ok (.invokestatic 313, 3) := by decide +kernel
theorem dX11_lead_50 : decode cX11_lead 50 = .ok (.ireturn, 1) := by decide +kernel
theorem dX11_liveYear_0 : decode cX11_liveYear 0 = .ok (.aload_n 0, 1) := by decide +kernel
theorem dX11_liveYear_1 : decode cX11_liveYear 1 = .ok (.iconst 4, 1) := by decide +kernel
theorem dX11_liveYear_2 : decode cX11_liveYear 2 = .ok (.invokevirtual 383, 3) := by decide +kernel
theorem dX11_liveYear_5 : decode cX11_liveYear 5 = .ok (.tableswitch 101 0 2 #[27, 48, 69], 27) := by decide +kernel
theorem dX11_liveYear_32 : decode cX11_liveYear 32 = .ok (.aload_n 0, 1) := by decide +kernel
theorem dX11_liveYear_33 : decode cX11_liveYear 33 = .ok (.iconst 4, 1) := by decide +kernel
theorem dX11_liveYear_34 : decode cX11_liveYear 34 = .ok (.invokevirtual 383, 3) := by decide +kernel
theorem dX11_liveYear_37 : decode cX11_liveYear 37 = .ok (.istore_n 1, 1) := by decide +kernel
theorem dX11_liveYear_38 : decode cX11_liveYear 38 = .ok (.aload_n 0, 1) := by decide +kernel
theorem dX11_liveYear_39 : decode cX11_liveYear 39 = .ok (.iload_n 1, 1) := by decide +kernel
theorem dX11_liveYear_40 : decode cX11_liveYear 40 = .ok (.aload_n 0, 1) := by decide +kernel
theorem dX11_liveYear_41 : decode cX11_liveYear 41 = .ok (.bipush 100, 2) := by decide +kernel
theorem dX11_liveYear_43 : decode cX11_liveYear 43 = .ok (.invokevirtual 383, 3) := by decide +kernel
theorem dX11_liveYear_46 : decode cX11_liveYear 46 = .ok (.invokevirtual 386, 3) := by decide +kernel
theorem dX11_liveYear_49 : decode cX11_liveYear 49 = .ok (.pop, 1) := by decide +kernel
theorem dX11_liveYear_50 : decode cX11_liveYear 50 = .ok (.goto 84, 3) := by decide +kernel
theorem dX11_liveYear_53 : decode cX11_liveYear 53 = .ok (.aload_n 0, 1) := by decide +kernel
theorem dX11_liveYear_54 : decode cX11_liveYear 54 = .ok (.iconst 4, 1) := by decide +kernel
theorem dX11_liveYear_55 : decode cX11_liveYear 55 = .ok (.invokevirtual 383, 3) := by decide +kernel
theorem dX11_liveYear_58 : decode cX11_liveYear 58 = .ok (.istore_n 1, 1) := by decide +kernel
theorem dX11_liveYear_59 : decode cX11_liveYear 59 = .ok (.aload_n 0, 1) := by decide +kernel
theorem dX11_liveYear_60 : decode cX11_liveYear 60 = .ok (.iload_n 1, 1) := by decide +kernel
theorem dX11_liveYear_61 : decode cX11_liveYear 61 = .ok (.aload_n 0, 1) := by decide +kernel
theorem dX11_liveYear_62 : decode cX11_liveYear 62 = .ok (.bipush 6, 2) := by decide +kernel
theorem dX11_liveYear_64 : decode cX11_liveYear 64 = .ok (.invokevirtual 383, 3) := by decide +kernel
theorem dX11_liveYear_67 : decode cX11_liveYear 67 = .ok (.invokevirtual 389, 3) := by decide +kernel
theorem dX11_liveYear_70 : decode cX11_liveYear 70 = .ok (.pop, 1) := by decide +kernel
theorem dX11_liveYear_71 : decode cX11_liveYear 71 = .ok (.goto 63, 3) := by decide +kernel
theorem dX11_liveYear_74 : decode cX11_liveYear 74 = .ok (.aload_n 0, 1) := by decide +kernel
theorem dX11_liveYear_75 : decode cX11_liveYear 75 = .ok (.bipush 7, 2) := by decide +kernel
theorem dX11_liveYear_77 : decode cX11_liveYear 77 = .ok (.invokevirtual 383, 3) := by decide +kernel
theorem dX11_liveYear_80 : decode cX11_liveYear 80 = .ok (.istore_n 1, 1) := by decide +kernel
theorem dX11_liveYear_81 : decode cX11_liveYear 81 = .ok (.aload_n 0, 1) := by decide +kernel
theorem dX11_liveYear_82 : decode cX11_liveYear 82 = .ok (.bipush 7, 2) := by decide +kernel
theorem dX11_liveYear_84 : decode cX11_liveYear 84 = .ok (.invokevirtual 383, 3) := by decide +kernel
theorem dX11_liveYear_87 : decode cX11_liveYear 87 = .ok (.istore_n 2, 1) := by decide +kernel
theorem dX11_liveYear_88 : decode cX11_liveYear 88 = .ok (.aload_n 0, 1) := by decide +kernel
theorem dX11_liveYear_89 : decode cX11_liveYear 89 = .ok (.iload_n 1, 1) := by decide +kernel
theorem dX11_liveYear_90 : decode cX11_liveYear 90 = .ok (.iload_n 2, 1) := by decide +kernel
theorem dX11_liveYear_91 : decode cX11_liveYear 91 = .ok (.aload_n 0, 1) := by decide +kernel
theorem dX11_liveYear_92 : decode cX11_liveYear 92 = .ok (.bipush 99, 2) := by decide +kernel
theorem dX11_liveYear_94 : decode cX11_liveYear 94 = .ok (.invokevirtual 383, 3) := by decide +kernel
theorem dX11_liveYear_97 : decode cX11_liveYear 97 = .ok (.iconst 1, 1) := by decide +kernel
theorem dX11_liveYear_98 : decode cX11_liveYear 98 = .ok (.iadd, 1) := by decide +kernel
theorem dX11_liveYear_99 : decode cX11_liveYear 99 = .ok (.invokevirtual 392, 3) := by decide +kernel
theorem dX11_liveYear_102 : decode cX11_liveYear 102 = .ok (.pop, 1) := by decide +kernel
theorem dX11_liveYear_103 : decode cX11_liveYear 103 = .ok (.goto 31, 3) := by decide +kernel
theorem dX11_liveYear_106 : decode cX11_liveYear 106 = .ok (.aload_n 0, 1) := by decide +kernel
theorem dX11_liveYear_107 : decode cX11_liveYear 107 = .ok (.iconst 5, 1) := by decide +kernel
theorem dX11_liveYear_108 : decode cX11_liveYear 108 = .ok (.invokevirtual 383, 3) := by decide +kernel
theorem dX11_liveYear_111 : decode cX11_liveYear 111 = .ok (.istore_n 1, 1) := by decide +kernel
theorem dX11_liveYear_112 : decode cX11_liveYear 112 = .ok (.aload_n 0, 1) := by decide +kernel
theorem dX11_liveYear_113 : decode cX11_liveYear 113 = .ok (.iconst 5, 1) := by decide +kernel
theorem dX11_liveYear_114 : decode cX11_liveYear 114 = .ok (.invokevirtual 383, 3) := by decide +kernel
theorem dX11_liveYear_117 : decode cX11_liveYear 117 = .ok (.istore_n 2, 1) := by decide +kernel
theorem dX11_liveYear_118 : decode cX11_liveYear 118 = .ok (.aload_n 0, 1) := by decide +kernel
theorem dX11_liveYear_119 : decode cX11_liveYear 119 = .ok (.iload_n 1, 1) := by decide +kernel
theorem dX11_liveYear_120 : decode cX11_liveYear 120 = .ok (.iload_n 2, 1) := by decide +kernel
theorem dX11_liveYear_121 : decode cX11_liveYear 121 = .ok (.aload_n 0, 1) := by decide +kernel
theorem dX11_liveYear_122 : decode cX11_liveYear 122 = .ok (.bipush 100, 2) := by decide +kernel
theorem dX11_liveYear_124 : decode cX11_liveYear 124 = .ok (.invokevirtual 383, 3) := by decide +kernel
theorem dX11_liveYear_127 : decode cX11_liveYear 127 = .ok (.invokevirtual 395, 3) := by decide +kernel
theorem dX11_liveYear_130 : decode cX11_liveYear 130 = .ok (.pop, 1) := by decide +kernel
theorem dX11_liveYear_131 : decode cX11_liveYear 131 = .ok (.goto 3, 3) := by decide +kernel
theorem dX11_liveYear_134 : decode cX11_liveYear 134 = .ok (.return_, 1) := by decide +kernel
theorem dX11_draw_0 : decode cX11_draw 0 = .ok (.aload_n 0, 1) := by decide +kernel
theorem dX11_draw_1 : decode cX11_draw 1 = .ok (.aload_n 0, 1) := by decide +kernel
theorem dX11_draw_2 : decode cX11_draw 2 = .ok (.getfield 333, 3) := by decide +kernel
theorem dX11_draw_5 : decode cX11_draw 5 = .ok (.ldc_w 398, 3) := by decide +kernel
theorem dX11_draw_8 : decode cX11_draw 8 = .ok (.imul, 1) := by decide +kernel
theorem dX11_draw_9 : decode cX11_draw 9 = .ok (.sipush 12345, 3) := by decide +kernel
theorem dX11_draw_12 : decode cX11_draw 12 = .ok (.iadd, 1) := by decide +kernel
theorem dX11_draw_13 : decode cX11_draw 13 = .ok (.putfield 333, 3) := by decide +kernel
theorem dX11_draw_16 : decode cX11_draw 16 = .ok (.iload_n 1, 1) := by decide +kernel
theorem dX11_draw_17 : decode cX11_draw 17 = .ok (.iconst 1, 1) := by decide +kernel
theorem dX11_draw_18 : decode cX11_draw 18 = .ok (.if_icmp .ge 7, 3) := by decide +kernel
theorem dX11_draw_21 : decode cX11_draw 21 = .ok (.iconst 0, 1) := by decide +kernel
theorem dX11_draw_22 : decode cX11_draw 22 = .ok (.goto 12, 3) := by decide +kernel
theorem dX11_draw_25 : decode cX11_draw 25 = .ok (.aload_n 0, 1) := by decide +kernel
theorem dX11_draw_26 : decode cX11_draw 26 = .ok (.getfield 333, 3) := by decide +kernel
theorem dX11_draw_29 : decode cX11_draw 29 = .ok (.bipush 16, 2) := by decide +kernel
theorem dX11_draw_31 : decode cX11_draw 31 = .ok (.iushr, 1) := by decide +kernel
theorem dX11_draw_32 : decode cX11_draw 32 = .ok (.iload_n 1, 1) := by decide +kernel
theorem dX11_draw_33 : decode cX11_draw 33 = .ok (.irem, 1) := by decide +kernel
theorem dX11_draw_34 : decode cX11_draw 34 = .ok (.ireturn, 1) := by decide +kernel
