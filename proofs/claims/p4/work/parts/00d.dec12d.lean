theorem dX12_tellItem_21 : decode cX12_tellItem 21 = .ok (.i2l, 1) := by decide +kernel
theorem dX12_tellItem_22 : decode cX12_tellItem 22 = .ok (.invokevirtual 269, 3) := by decide +kernel
theorem dX12_tellItem_25 : decode cX12_tellItem 25 = .ok (.iconst 0, 1) := by decide +kernel
theorem dX12_tellItem_26 : decode cX12_tellItem 26 = .ok (.istore_n 3, 1) := by decide +kernel
theorem dX12_tellItem_27 : decode cX12_tellItem 27 = .ok (.iload_n 3, 1) := by decide +kernel
theorem dX12_tellItem_28 : decode cX12_tellItem 28 = .ok (.aload_n 0, 1) := by decide +kernel
theorem dX12_tellItem_29 : decode cX12_tellItem 29 = .ok (.getfield 48, 3) := by decide +kernel
theorem dX12_tellItem_32 : decode cX12_tellItem 32 = .ok (.iload_n 2, 1) := by decide +kernel
theorem dX12_tellItem_33 : decode cX12_tellItem 33 = .ok (.iaload, 1) := by decide +kernel
theorem dX12_tellItem_34 : decode cX12_tellItem 34 = .ok (.if_icmp .ge 25, 3) := by decide +kernel
theorem dX12_tellItem_37 : decode cX12_tellItem 37 = .ok (.aload_n 0, 1) := by decide +kernel
theorem dX12_tellItem_38 : decode cX12_tellItem 38 = .ok (.aload_n 0, 1) := by decide +kernel
theorem dX12_tellItem_39 : decode cX12_tellItem 39 = .ok (.getfield 45, 3) := by decide +kernel
theorem dX12_tellItem_42 : decode cX12_tellItem 42 = .ok (.bipush 8, 2) := by decide +kernel
theorem dX12_tellItem_44 : decode cX12_tellItem 44 = .ok (.iload_n 2, 1) := by decide +kernel
theorem dX12_tellItem_45 : decode cX12_tellItem 45 = .ok (.imul, 1) := by decide +kernel
theorem dX12_tellItem_46 : decode cX12_tellItem 46 = .ok (.iload_n 3, 1) := by decide +kernel
theorem dX12_tellItem_47 : decode cX12_tellItem 47 = .ok (.iadd, 1) := by decide +kernel
theorem dX12_tellItem_48 : decode cX12_tellItem 48 = .ok (.iaload, 1) := by decide +kernel
theorem dX12_tellItem_49 : decode cX12_tellItem 49 = .ok (.i2l, 1) := by decide +kernel
theorem dX12_tellItem_50 : decode cX12_tellItem 50 = .ok (.invokevirtual 269, 3) := by decide +kernel
theorem dX12_tellItem_53 : decode cX12_tellItem 53 = .ok (.iinc 3 1, 3) := by decide +kernel
theorem dX12_tellItem_56 : decode cX12_tellItem 56 = .ok (.goto (-29), 3) := by decide +kernel
theorem dX12_tellItem_59 : decode cX12_tellItem 59 = .ok (.aload_n 0, 1) := by decide +kernel
theorem dX12_tellItem_60 : decode cX12_tellItem 60 = .ok (.getfield 48, 3) := by decide +kernel
theorem dX12_tellItem_63 : decode cX12_tellItem 63 = .ok (.iload_n 2, 1) := by decide +kernel
theorem dX12_tellItem_64 : decode cX12_tellItem 64 = .ok (.iaload, 1) := by decide +kernel
theorem dX12_tellItem_65 : decode cX12_tellItem 65 = .ok (.ireturn, 1) := by decide +kernel
theorem dX12_costAt_0 : decode cX12_costAt 0 = .ok (.aload_n 0, 1) := by decide +kernel
theorem dX12_costAt_1 : decode cX12_costAt 1 = .ok (.getfield 51, 3) := by decide +kernel
theorem dX12_costAt_4 : decode cX12_costAt 4 = .ok (.aload_n 0, 1) := by decide +kernel
theorem dX12_costAt_5 : decode cX12_costAt 5 = .ok (.getfield 54, 3) := by decide +kernel
theorem dX12_costAt_8 : decode cX12_costAt 8 = .ok (.iload_n 1, 1) := by decide +kernel
theorem dX12_costAt_9 : decode cX12_costAt 9 = .ok (.iconst 1, 1) := by decide +kernel
theorem dX12_costAt_10 : decode cX12_costAt 10 = .ok (.isub, 1) := by decide +kernel
theorem dX12_costAt_11 : decode cX12_costAt 11 = .ok (.iaload, 1) := by decide +kernel
theorem dX12_costAt_12 : decode cX12_costAt 12 = .ok (.iaload, 1) := by decide +kernel
theorem dX12_costAt_13 : decode cX12_costAt 13 = .ok (.ireturn, 1) := by decide +kernel
theorem dX12_best_0 : decode cX12_best 0 = .ok (.aload_n 0, 1) := by decide +kernel
theorem dX12_best_1 : decode cX12_best 1 = .ok (.iconst 0, 1) := by decide +kernel
theorem dX12_best_2 : decode cX12_best 2 = .ok (.putfield 94, 3) := by decide +kernel
theorem dX12_best_5 : decode cX12_best 5 = .ok (.iload_n 1, 1) := by decide +kernel
theorem dX12_best_6 : decode cX12_best 6 = .ok (.invokestatic 324, 3) := by decide +kernel
theorem dX12_best_9 : decode cX12_best 9 = .ok (.ifCond .eq 14, 3) := by decide +kernel
theorem dX12_best_12 : decode cX12_best 12 = .ok (.iload_n 2, 1) := by decide +kernel
theorem dX12_best_13 : decode cX12_best 13 = .ok (.iconst 1, 1) := by decide +kernel
theorem dX12_best_14 : decode cX12_best 14 = .ok (.sipush 400, 3) := by decide +kernel
theorem dX12_best_17 : decode cX12_best 17 = .ok (.invokestatic 101, 3) := by decide +kernel
theorem dX12_best_20 : decode cX12_best 20 = .ok (.ifCond .ne 5, 3) := by decide +kernel
theorem dX12_best_23 : decode cX12_best 23 = .ok (.iconst (-1), 1) := by decide +kernel
theorem dX12_best_24 : decode cX12_best 24 = .ok (.ireturn, 1) := by decide +kernel
theorem dX12_best_25 : decode cX12_best 25 = .ok (.aload_n 0, 1) := by decide +kernel
theorem dX12_best_26 : decode cX12_best 26 = .ok (.aload_n 0, 1) := by decide +kernel
theorem dX12_best_27 : decode cX12_best 27 = .ok (.getfield 9, 3) := by decide +kernel
theorem dX12_best_30 : decode cX12_best 30 = .ok (.iload_n 1, 1) := by decide +kernel
theorem dX12_best_31 : decode cX12_best 31 = .ok (.invokevirtual 327, 3) := by decide +kernel
theorem dX12_best_34 : decode cX12_best 34 = .ok (.iload_n 2, 1) := by decide +kernel
theorem dX12_best_35 : decode cX12_best 35 = .ok (.if_icmp .ge 8, 3) := by decide +kernel
theorem dX12_best_38 : decode cX12_best 38 = .ok (.bipush (-2), 2) := by decide +kernel
theorem dX12_best_40 : decode cX12_best 40 = .ok (.goto 8, 3) := by decide +kernel
theorem dX12_best_43 : decode cX12_best 43 = .ok (.aload_n 0, 1) := by decide +kernel
theorem dX12_best_44 : decode cX12_best 44 = .ok (.iload_n 2, 1) := by decide +kernel
theorem dX12_best_45 : decode cX12_best 45 = .ok (.invokevirtual 330, 3) := by decide +kernel
theorem dX12_best_48 : decode cX12_best 48 = .ok (.ireturn, 1) := by decide +kernel
theorem dX12_upTo_0 : decode cX12_upTo 0 = .ok (.iconst 0, 1) := by decide +kernel
theorem dX12_upTo_1 : decode cX12_upTo 1 = .ok (.istore_n 2, 1) := by decide +kernel
theorem dX12_upTo_2 : decode cX12_upTo 2 = .ok (.iload_n 2, 1) := by decide +kernel
theorem dX12_upTo_3 : decode cX12_upTo 3 = .ok (.aload_n 0, 1) := by decide +kernel
theorem dX12_upTo_4 : decode cX12_upTo 4 = .ok (.getfield 276, 3) := by decide +kernel
theorem dX12_upTo_7 : decode cX12_upTo 7 = .ok (.if_icmp .ge 24, 3) := by decide +kernel
theorem dX12_upTo_10 : decode cX12_upTo 10 = .ok (.aload_n 0, 1) := by decide +kernel
theorem dX12_upTo_11 : decode cX12_upTo 11 = .ok (.getfield 51, 3) := by decide +kernel
theorem dX12_upTo_14 : decode cX12_upTo 14 = .ok (.aload_n 0, 1) := by decide +kernel
theorem dX12_upTo_15 : decode cX12_upTo 15 = .ok (.getfield 54, 3) := by decide +kernel
theorem dX12_upTo_18 : decode cX12_upTo 18 = .ok (.iload_n 2, 1) := by decide +kernel
theorem dX12_upTo_19 : decode cX12_upTo 19 = .ok (.iaload, 1) := by decide +kernel
theorem dX12_upTo_20 : decode cX12_upTo 20 = .ok (.iaload, 1) := by decide +kernel
theorem dX12_upTo_21 : decode cX12_upTo 21 = .ok (.iload_n 1, 1) := by decide +kernel
theorem dX12_upTo_22 : decode cX12_upTo 22 = .ok (.if_icmp .gt 9, 3) := by decide +kernel
theorem dX12_upTo_25 : decode cX12_upTo 25 = .ok (.iinc 2 1, 3) := by decide +kernel
theorem dX12_upTo_28 : decode cX12_upTo 28 = .ok (.goto (-26), 3) := by decide +kernel
theorem dX12_upTo_31 : decode cX12_upTo 31 = .ok (.iload_n 2, 1) := by decide +kernel
theorem dX12_upTo_32 : decode cX12_upTo 32 = .ok (.ireturn, 1) := by decide +kernel
theorem dX12_many_0 : decode cX12_many 0 = .ok (.aload_n 0, 1) := by decide +kernel
theorem dX12_many_1 : decode cX12_many 1 = .ok (.iconst 0, 1) := by decide +kernel
theorem dX12_many_2 : decode cX12_many 2 = .ok (.putfield 94, 3) := by decide +kernel
theorem dX12_many_5 : decode cX12_many 5 = .ok (.iload_n 1, 1) := by decide +kernel
theorem dX12_many_6 : decode cX12_many 6 = .ok (.invokestatic 324, 3) := by decide +kernel
theorem dX12_many_9 : decode cX12_many 9 = .ok (.ifCond .ne 5, 3) := by decide +kernel
theorem dX12_many_12 : decode cX12_many 12 = .ok (.iconst (-1), 1) := by decide +kernel
theorem dX12_many_13 : decode cX12_many 13 = .ok (.ireturn, 1) := by decide +kernel
theorem dX12_many_14 : decode cX12_many 14 = .ok (.aload_n 0, 1) := by decide +kernel
theorem dX12_many_15 : decode cX12_many 15 = .ok (.aload_n 0, 1) := by decide +kernel
theorem dX12_many_16 : decode cX12_many 16 = .ok (.getfield 9, 3) := by decide +kernel
theorem dX12_many_19 : decode cX12_many 19 = .ok (.iload_n 1, 1) := by decide +kernel
theorem dX12_many_20 : decode cX12_many 20 = .ok (.invokevirtual 327, 3) := by decide +kernel
theorem dX12_many_23 : decode cX12_many 23 = .ok (.istore_n 2, 1) := by decide +kernel
theorem dX12_many_24 : decode cX12_many 24 = .ok (.aload_n 0, 1) := by decide +kernel
theorem dX12_many_25 : decode cX12_many 25 = .ok (.iconst 0, 1) := by decide +kernel
theorem dX12_many_26 : decode cX12_many 26 = .ok (.putfield 98, 3) := by decide +kernel
theorem dX12_many_29 : decode cX12_many 29 = .ok (.iload_n 2, 1) := by decide +kernel
theorem dX12_many_30 : decode cX12_many 30 = .ok (.ifCond .le 37, 3) := by decide +kernel
theorem dX12_many_33 : decode cX12_many 33 = .ok (.aload_n 0, 1) := by decide +kernel
theorem dX12_many_34 : decode cX12_many 34 = .ok (.aload_n 0, 1) := by decide +kernel
theorem dX12_many_35 : decode cX12_many 35 = .ok (.iconst 1, 1) := by decide +kernel
theorem dX12_many_36 : decode cX12_many 36 = .ok (.invokevirtual 333, 3) := by decide +kernel
theorem dX12_many_39 : decode cX12_many 39 = .ok (.i2l, 1) := by decide +kernel
theorem dX12_many_40 : decode cX12_many 40 = .ok (.invokevirtual 269, 3) := by decide +kernel
theorem dX12_many_43 : decode cX12_many 43 = .ok (.aload_n 0, 1) := by decide +kernel
theorem dX12_many_44 : decode cX12_many 44 = .ok (.aload_n 0, 1) := by decide +kernel
theorem dX12_many_45 : decode cX12_many 45 = .ok (.aload_n 0, 1) := by decide +kernel
theorem dX12_many_46 : decode cX12_many 46 = .ok (.iconst 1, 1) := by decide +kernel
theorem dX12_many_47 : decode cX12_many 47 = .ok (.invokevirtual 333, 3) := by decide +kernel
theorem dX12_many_50 : decode cX12_many 50 = .ok (.invokevirtual 336, 3) := by decide +kernel
theorem dX12_many_53 : decode cX12_many 53 = .ok (.i2l, 1) := by decide +kernel
theorem dX12_many_54 : decode cX12_many 54 = .ok (.invokevirtual 269, 3) := by decide +kernel
theorem dX12_many_57 : decode cX12_many 57 = .ok (.aload_n 0, 1) := by decide +kernel
theorem dX12_many_58 : decode cX12_many 58 = .ok (.aload_n 0, 1) := by decide +kernel
theorem dX12_many_59 : decode cX12_many 59 = .ok (.iload_n 2, 1) := by decide +kernel
theorem dX12_many_60 : decode cX12_many 60 = .ok (.invokevirtual 333, 3) := by decide +kernel
theorem dX12_many_63 : decode cX12_many 63 = .ok (.i2l, 1) := by decide +kernel
theorem dX12_many_64 : decode cX12_many 64 = .ok (.invokevirtual 269, 3) := by decide +kernel
theorem dX12_many_67 : decode cX12_many 67 = .ok (.iload_n 2, 1) := by decide +kernel
theorem dX12_many_68 : decode cX12_many 68 = .ok (.ireturn, 1) := by decide +kernel
theorem dX12_below_0 : decode cX12_below 0 = .ok (.aload_n 0, 1) := by decide +kernel
theorem dX12_below_1 : decode cX12_below 1 = .ok (.iconst 0, 1) := by decide +kernel
theorem dX12_below_2 : decode cX12_below 2 = .ok (.putfield 94, 3) := by decide +kernel
theorem dX12_below_5 : decode cX12_below 5 = .ok (.iload_n 1, 1) := by decide +kernel
theorem dX12_below_6 : decode cX12_below 6 = .ok (.invokestatic 324, 3) := by decide +kernel
theorem dX12_below_9 : decode cX12_below 9 = .ok (.ifCond .ne 5, 3) := by decide +kernel
theorem dX12_below_12 : decode cX12_below 12 = .ok (.iconst (-1), 1) := by decide +kernel
theorem dX12_below_13 : decode cX12_below 13 = .ok (.ireturn, 1) := by decide +kernel
theorem dX12_below_14 : decode cX12_below 14 = .ok (.aload_n 0, 1) := by decide +kernel
theorem dX12_below_15 : decode cX12_below 15 = .ok (.aload_n 0, 1) := by decide +kernel
theorem dX12_below_16 : decode cX12_below 16 = .ok (.getfield 9, 3) := by decide +kernel
theorem dX12_below_19 : decode cX12_below 19 = .ok (.iload_n 1, 1) := by decide +kernel
theorem dX12_below_20 : decode cX12_below 20 = .ok (.invokevirtual 327, 3) := by decide +kernel
theorem dX12_below_23 : decode cX12_below 23 = .ok (.pop, 1) := by decide +kernel
theorem dX12_below_24 : decode cX12_below 24 = .ok (.aload_n 0, 1) := by decide +kernel
theorem dX12_below_25 : decode cX12_below 25 = .ok (.iload_n 2, 1) := by decide +kernel
theorem dX12_below_26 : decode cX12_below 26 = .ok (.invokevirtual 336, 3) := by decide +kernel
theorem dX12_below_29 : decode cX12_below 29 = .ok (.istore_n 3, 1) := by decide +kernel
theorem dX12_below_30 : decode cX12_below 30 = .ok (.aload_n 0, 1) := by decide +kernel
theorem dX12_below_31 : decode cX12_below 31 = .ok (.iconst 0, 1) := by decide +kernel
theorem dX12_below_32 : decode cX12_below 32 = .ok (.putfield 98, 3) := by decide +kernel
theorem dX12_below_35 : decode cX12_below 35 = .ok (.iload_n 3, 1) := by decide +kernel
theorem dX12_below_36 : decode cX12_below 36 = .ok (.ifCond .le 13, 3) := by decide +kernel
theorem dX12_below_39 : decode cX12_below 39 = .ok (.aload_n 0, 1) := by decide +kernel
theorem dX12_below_40 : decode cX12_below 40 = .ok (.aload_n 0, 1) := by decide +kernel
theorem dX12_below_41 : decode cX12_below 41 = .ok (.iload_n 3, 1) := by decide +kernel
theorem dX12_below_42 : decode cX12_below 42 = .ok (.invokevirtual 333, 3) := by decide +kernel
theorem dX12_below_45 : decode cX12_below 45 = .ok (.i2l, 1) := by decide +kernel
theorem dX12_below_46 : decode cX12_below 46 = .ok (.invokevirtual 269, 3) := by decide +kernel
theorem dX12_below_49 : decode cX12_below 49 = .ok (.iload_n 3, 1) := by decide +kernel
theorem dX12_below_50 : decode cX12_below 50 = .ok (.ireturn, 1) := by decide +kernel
theorem dX12_isLaid_0 : decode cX12_isLaid 0 = .ok (.aload_n 0, 1) := by decide +kernel
theorem dX12_isLaid_1 : decode cX12_isLaid 1 = .ok (.getfield 48, 3) := by decide +kernel
theorem dX12_isLaid_4 : decode cX12_isLaid 4 = .ok (.iload_n 1, 1) := by decide +kernel
theorem dX12_isLaid_5 : decode cX12_isLaid 5 = .ok (.iaload, 1) := by decide +kernel
theorem dX12_isLaid_6 : decode cX12_isLaid 6 = .ok (.iload_n 2, 1) := by decide +kernel
theorem dX12_isLaid_7 : decode cX12_isLaid 7 = .ok (.if_icmp .eq 5, 3) := by decide +kernel
theorem dX12_isLaid_10 : decode cX12_isLaid 10 = .ok (.iconst 0, 1) := by decide +kernel
theorem dX12_isLaid_11 : decode cX12_isLaid 11 = .ok (.ireturn, 1) := by decide +kernel
theorem dX12_isLaid_12 : decode cX12_isLaid 12 = .ok (.iconst 0, 1) := by decide +kernel
theorem dX12_isLaid_13 : decode cX12_isLaid 13 = .ok (.istore_n 3, 1) := by decide +kernel
theorem dX12_isLaid_14 : decode cX12_isLaid 14 = .ok (.iload_n 3, 1) := by decide +kernel
theorem dX12_isLaid_15 : decode cX12_isLaid 15 = .ok (.iload_n 2, 1) := by decide +kernel
theorem dX12_isLaid_16 : decode cX12_isLaid 16 = .ok (.if_icmp .ge 31, 3) := by decide +kernel
theorem dX12_isLaid_19 : decode cX12_isLaid 19 = .ok (.aload_n 0, 1) := by decide +kernel
theorem dX12_isLaid_20 : decode cX12_isLaid 20 = .ok (.getfield 45, 3) := by decide +kernel
theorem dX12_isLaid_23 : decode cX12_isLaid 23 = .ok (.bipush 8, 2) := by decide +kernel
theorem dX12_isLaid_25 : decode cX12_isLaid 25 = .ok (.iload_n 1, 1) := by decide +kernel
theorem dX12_isLaid_26 : decode cX12_isLaid 26 = .ok (.imul, 1) := by decide +kernel
theorem dX12_isLaid_27 : decode cX12_isLaid 27 = .ok (.iload_n 3, 1) := by decide +kernel
theorem dX12_isLaid_28 : decode cX12_isLaid 28 = .ok (.iadd, 1) := by decide +kernel
theorem dX12_isLaid_29 : decode cX12_isLaid 29 = .ok (.iaload, 1) := by decide +kernel
theorem dX12_isLaid_30 : decode cX12_isLaid 30 = .ok (.aload_n 0, 1) := by decide +kernel
theorem dX12_isLaid_31 : decode cX12_isLaid 31 = .ok (.getfield 60, 3) := by decide +kernel
theorem dX12_isLaid_34 : decode cX12_isLaid 34 = .ok (.iload_n 3, 1) := by decide +kernel
theorem dX12_isLaid_35 : decode cX12_isLaid 35 = .ok (.iaload, 1) := by decide +kernel
theorem dX12_isLaid_36 : decode cX12_isLaid 36 = .ok (.if_icmp .eq 5, 3) := by decide +kernel
theorem dX12_isLaid_39 : decode cX12_isLaid 39 = .ok (.iconst 0, 1) := by decide +kernel
theorem dX12_isLaid_40 : decode cX12_isLaid 40 = .ok (.ireturn, 1) := by decide +kernel
theorem dX12_isLaid_41 : decode cX12_isLaid 41 = .ok (.iinc 3 1, 3) := by decide +kernel
theorem dX12_isLaid_44 : decode cX12_isLaid 44 = .ok (.goto (-30), 3) := by decide +kernel
theorem dX12_isLaid_47 : decode cX12_isLaid 47 = .ok (.iconst 1, 1) := by decide +kernel
theorem dX12_isLaid_48 : decode cX12_isLaid 48 = .ok (.ireturn, 1) := by decide +kernel
theorem dX12_rank_0 : decode cX12_rank 0 = .ok (.aload_n 0, 1) := by decide +kernel
theorem dX12_rank_1 : decode cX12_rank 1 = .ok (.iconst 0, 1) := by decide +kernel
theorem dX12_rank_2 : decode cX12_rank 2 = .ok (.putfield 94, 3) := by decide +kernel
theorem dX12_rank_5 : decode cX12_rank 5 = .ok (.aload_n 0, 1) := by decide +kernel
theorem dX12_rank_6 : decode cX12_rank 6 = .ok (.bipush 80, 2) := by decide +kernel
theorem dX12_rank_8 : decode cX12_rank 8 = .ok (.invokevirtual 151, 3) := by decide +kernel
theorem dX12_rank_11 : decode cX12_rank 11 = .ok (.iconst 0, 1) := by decide +kernel
theorem dX12_rank_12 : decode cX12_rank 12 = .ok (.istore_n 2, 1) := by decide +kernel
theorem dX12_rank_13 : decode cX12_rank 13 = .ok (.aload_n 0, 1) := by decide +kernel
theorem dX12_rank_14 : decode cX12_rank 14 = .ok (.getfield 66, 3) := by decide +kernel
theorem dX12_rank_17 : decode cX12_rank 17 = .ok (.astore_n 3, 1) := by decide +kernel
theorem dX12_rank_18 : decode cX12_rank 18 = .ok (.aload_n 0, 1) := by decide +kernel
theorem dX12_rank_19 : decode cX12_rank 19 = .ok (.invokevirtual 131, 3) := by decide +kernel
theorem dX12_rank_22 : decode cX12_rank 22 = .ok (.ifCond .eq 48, 3) := by decide +kernel
theorem dX12_rank_25 : decode cX12_rank 25 = .ok (.aload_n 0, 1) := by decide +kernel
theorem dX12_rank_26 : decode cX12_rank 26 = .ok (.getfield 121, 3) := by decide +kernel
theorem dX12_rank_29 : decode cX12_rank 29 = .ok (.aload_n 0, 1) := by decide +kernel
theorem dX12_rank_30 : decode cX12_rank 30 = .ok (.getfield 115, 3) := by decide +kernel
theorem dX12_rank_33 : decode cX12_rank 33 = .ok (.if_icmp .ge 37, 3) := by decide +kernel
theorem dX12_rank_36 : decode cX12_rank 36 = .ok (.iload_n 2, 1) := by decide +kernel
theorem dX12_rank_37 : decode cX12_rank 37 = .ok (.bipush 8, 2) := by decide +kernel
theorem dX12_rank_39 : decode cX12_rank 39 = .ok (.if_icmp .ne 14, 3) := by decide +kernel
theorem dX12_rank_42 : decode cX12_rank 42 = .ok (.aload_n 0, 1) := by decide +kernel
theorem dX12_rank_43 : decode cX12_rank 43 = .ok (.aload_n 0, 1) := by decide +kernel
theorem dX12_rank_44 : decode cX12_rank 44 = .ok (.getfield 121, 3) := by decide +kernel
theorem dX12_rank_47 : decode cX12_rank 47 = .ok (.invokevirtual 143, 3) := by decide +kernel
theorem dX12_rank_50 : decode cX12_rank 50 = .ok (.goto 14, 3) := by decide +kernel
theorem dX12_rank_53 : decode cX12_rank 53 = .ok (.aload_n 3, 1) := by decide +kernel
theorem dX12_rank_54 : decode cX12_rank 54 = .ok (.iload_n 2, 1) := by decide +kernel
theorem dX12_rank_55 : decode cX12_rank 55 = .ok (.aload_n 0, 1) := by decide +kernel
theorem dX12_rank_56 : decode cX12_rank 56 = .ok (.bipush 97, 2) := by decide +kernel
theorem dX12_rank_58 : decode cX12_rank 58 = .ok (.bipush 12, 2) := by decide +kernel
theorem dX12_rank_60 : decode cX12_rank 60 = .ok (.invokevirtual 147, 3) := by decide +kernel
theorem dX12_rank_63 : decode cX12_rank 63 = .ok (.iastore, 1) := by decide +kernel
theorem dX12_rank_64 : decode cX12_rank 64 = .ok (.iinc 2 1, 3) := by decide +kernel
theorem dX12_rank_67 : decode cX12_rank 67 = .ok (.goto (-49), 3) := by decide +kernel
theorem dX12_rank_70 : decode cX12_rank 70 = .ok (.aload_n 0, 1) := by decide +kernel
theorem dX12_rank_71 : decode cX12_rank 71 = .ok (.invokevirtual 158, 3) := by decide +kernel
theorem dX12_rank_74 : decode cX12_rank 74 = .ok (.ifCond .ne 10, 3) := by decide +kernel
theorem dX12_rank_77 : decode cX12_rank 77 = .ok (.iconst (-1), 1) := by decide +kernel
theorem dX12_rank_78 : decode cX12_rank 78 = .ok (.aload_n 0, 1) := by decide +kernel
theorem dX12_rank_79 : decode cX12_rank 79 = .ok (.getfield 124, 3) := by decide +kernel
theorem dX12_rank_82 : decode cX12_rank 82 = .ok (.isub, 1) := by decide +kernel
theorem dX12_rank_83 : decode cX12_rank 83 = .ok (.ireturn, 1) := by decide +kernel
theorem dX12_rank_84 : decode cX12_rank 84 = .ok (.iload_n 1, 1) := by decide +kernel
theorem dX12_rank_85 : decode cX12_rank 85 = .ok (.invokestatic 324, 3) := by decide +kernel
theorem dX12_rank_88 : decode cX12_rank 88 = .ok (.ifCond .ne 6, 3) := by decide +kernel
theorem dX12_rank_91 : decode cX12_rank 91 = .ok (.bipush (-101), 2) := by decide +kernel
theorem dX12_rank_93 : decode cX12_rank 93 = .ok (.ireturn, 1) := by decide +kernel
theorem dX12_rank_94 : decode cX12_rank 94 = .ok (.aload_n 0, 1) := by decide +kernel
theorem dX12_rank_95 : decode cX12_rank 95 = .ok (.aload_n 0, 1) := by decide +kernel
theorem dX12_rank_96 : decode cX12_rank 96 = .ok (.getfield 9, 3) := by decide +kernel
theorem dX12_rank_99 : decode cX12_rank 99 = .ok (.iload_n 1, 1) := by decide +kernel
theorem dX12_rank_100 : decode cX12_rank 100 = .ok (.invokevirtual 327, 3) := by decide +kernel
theorem dX12_rank_103 : decode cX12_rank 103 = .ok (.istore 4, 2) := by decide +kernel
theorem dX12_rank_105 : decode cX12_rank 105 = .ok (.iconst 0, 1) := by decide +kernel
theorem dX12_rank_106 : decode cX12_rank 106 = .ok (.istore 5, 2) := by decide +kernel
theorem dX12_rank_108 : decode cX12_rank 108 = .ok (.iload 5, 2) := by decide +kernel
theorem dX12_rank_110 : decode cX12_rank 110 = .ok (.iload_n 2, 1) := by decide +kernel
theorem dX12_rank_111 : decode cX12_rank 111 = .ok (.if_icmp .ge 20, 3) := by decide +kernel
theorem dX12_rank_114 : decode cX12_rank 114 = .ok (.aload_n 0, 1) := by decide +kernel
theorem dX12_rank_115 : decode cX12_rank 115 = .ok (.getfield 60, 3) := by decide +kernel
theorem dX12_rank_118 : decode cX12_rank 118 = .ok (.iload 5, 2) := by decide +kernel
theorem dX12_rank_120 : decode cX12_rank 120 = .ok (.aload_n 3, 1) := by decide +kernel
theorem dX12_rank_121 : decode cX12_rank 121 = .ok (.iload 5, 2) := by decide +kernel
theorem dX12_rank_123 : decode cX12_rank 123 = .ok (.iaload, 1) := by decide +kernel
theorem dX12_rank_124 : decode cX12_rank 124 = .ok (.iastore, 1) := by decide +kernel
theorem dX12_rank_125 : decode cX12_rank 125 = .ok (.iinc 5 1, 3) := by decide +kernel
theorem dX12_rank_128 : decode cX12_rank 128 = .ok (.goto (-20), 3) := by decide +kernel
theorem dX12_rank_131 : decode cX12_rank 131 = .ok (.iconst 1, 1) := by decide +kernel
theorem dX12_rank_132 : decode cX12_rank 132 = .ok (.istore 5, 2) := by decide +kernel
theorem dX12_rank_134 : decode cX12_rank 134 = .ok (.iload 5, 2) := by decide +kernel
theorem dX12_rank_136 : decode cX12_rank 136 = .ok (.iload 4, 2) := by decide +kernel
theorem dX12_rank_138 : decode cX12_rank 138 = .ok (.if_icmp .gt 48, 3) := by decide +kernel
theorem dX12_rank_141 : decode cX12_rank 141 = .ok (.aload_n 0, 1) := by decide +kernel
theorem dX12_rank_142 : decode cX12_rank 142 = .ok (.aload_n 0, 1) := by decide +kernel
theorem dX12_rank_143 : decode cX12_rank 143 = .ok (.getfield 54, 3) := by decide +kernel
theorem dX12_rank_146 : decode cX12_rank 146 = .ok (.iload 5, 2) := by decide +kernel
theorem dX12_rank_148 : decode cX12_rank 148 = .ok (.iconst 1, 1) := by decide +kernel
theorem dX12_rank_149 : decode cX12_rank 149 = .ok (.isub, 1) := by decide +kernel
theorem dX12_rank_150 : decode cX12_rank 150 = .ok (.iaload, 1) := by decide +kernel
theorem dX12_rank_151 : decode cX12_rank 151 = .ok (.iload_n 2, 1) := by decide +kernel
theorem dX12_rank_152 : decode cX12_rank 152 = .ok (.invokevirtual 339, 3) := by decide +kernel
theorem dX12_rank_155 : decode cX12_rank 155 = .ok (.ifCond .ne 6, 3) := by decide +kernel
theorem dX12_rank_158 : decode cX12_rank 158 = .ok (.goto 22, 3) := by decide +kernel
theorem dX12_rank_161 : decode cX12_rank 161 = .ok (.aload_n 0, 1) := by decide +kernel
theorem dX12_rank_162 : decode cX12_rank 162 = .ok (.iconst 0, 1) := by decide +kernel
theorem dX12_rank_163 : decode cX12_rank 163 = .ok (.putfield 98, 3) := by decide +kernel
theorem dX12_rank_166 : decode cX12_rank 166 = .ok (.aload_n 0, 1) := by decide +kernel
theorem dX12_rank_167 : decode cX12_rank 167 = .ok (.aload_n 0, 1) := by decide +kernel
theorem dX12_rank_168 : decode cX12_rank 168 = .ok (.iload 5, 2) := by decide +kernel
theorem dX12_rank_170 : decode cX12_rank 170 = .ok (.invokevirtual 333, 3) := by decide +kernel
theorem dX12_rank_173 : decode cX12_rank 173 = .ok (.i2l, 1) := by decide +kernel
theorem dX12_rank_174 : decode cX12_rank 174 = .ok (.invokevirtual 269, 3) := by decide +kernel
theorem dX12_rank_177 : decode cX12_rank 177 = .ok (.iload 5, 2) := by decide +kernel
theorem dX12_rank_179 : decode cX12_rank 179 = .ok (.ireturn, 1) := by decide +kernel
theorem dX12_rank_180 : decode cX12_rank 180 = .ok (.iinc 5 1, 3) := by decide +kernel
theorem dX12_rank_183 : decode cX12_rank 183 = .ok (.goto (-49), 3) := by decide +kernel
theorem dX12_rank_186 : decode cX12_rank 186 = .ok (.bipush (-100), 2) := by decide +kernel
theorem dX12_rank_188 : decode cX12_rank 188 = .ok (.ireturn, 1) := by decide +kernel
theorem dX12_alike_0 : decode cX12_alike 0 = .ok (.aload_n 0, 1) := by decide +kernel
theorem dX12_alike_1 : decode cX12_alike 1 = .ok (.iconst 0, 1) := by decide +kernel
theorem dX12_alike_2 : decode cX12_alike 2 = .ok (.putfield 94, 3) := by decide +kernel
theorem dX12_alike_5 : decode cX12_alike 5 = .ok (.iload_n 1, 1) := by decide +kernel
theorem dX12_alike_6 : decode cX12_alike 6 = .ok (.invokestatic 324, 3) := by decide +kernel
theorem dX12_alike_9 : decode cX12_alike 9 = .ok (.ifCond .eq 14, 3) := by decide +kernel
theorem dX12_alike_12 : decode cX12_alike 12 = .ok (.iload_n 2, 1) := by decide +kernel
theorem dX12_alike_13 : decode cX12_alike 13 = .ok (.iconst 1, 1) := by decide +kernel
theorem dX12_alike_14 : decode cX12_alike 14 = .ok (.sipush 400, 3) := by decide +kernel
theorem dX12_alike_17 : decode cX12_alike 17 = .ok (.invokestatic 101, 3) := by decide +kernel
theorem dX12_alike_20 : decode cX12_alike 20 = .ok (.ifCond .ne 5, 3) := by decide +kernel
theorem dX12_alike_23 : decode cX12_alike 23 = .ok (.iconst (-1), 1) := by decide +kernel
theorem dX12_alike_24 : decode cX12_alike 24 = .ok (.ireturn, 1) := by decide +kernel
theorem dX12_alike_25 : decode cX12_alike 25 = .ok (.aload_n 0, 1) := by decide +kernel
theorem dX12_alike_26 : decode cX12_alike 26 = .ok (.aload_n 0, 1) := by decide +kernel
theorem dX12_alike_27 : decode cX12_alike 27 = .ok (.getfield 9, 3) := by decide +kernel
theorem dX12_alike_30 : decode cX12_alike 30 = .ok (.iload_n 1, 1) := by decide +kernel
theorem dX12_alike_31 : decode cX12_alike 31 = .ok (.invokevirtual 327, 3) := by decide +kernel
theorem dX12_alike_34 : decode cX12_alike 34 = .ok (.iload_n 2, 1) := by decide +kernel
theorem dX12_alike_35 : decode cX12_alike 35 = .ok (.if_icmp .ge 6, 3) := by decide +kernel
theorem dX12_alike_38 : decode cX12_alike 38 = .ok (.bipush (-2), 2) := by decide +kernel
theorem dX12_alike_40 : decode cX12_alike 40 = .ok (.ireturn, 1) := by decide +kernel
theorem dX12_alike_41 : decode cX12_alike 41 = .ok (.aload_n 0, 1) := by decide +kernel
theorem dX12_alike_42 : decode cX12_alike 42 = .ok (.aload_n 0, 1) := by decide +kernel
theorem dX12_alike_43 : decode cX12_alike 43 = .ok (.iload_n 2, 1) := by decide +kernel
theorem dX12_alike_44 : decode cX12_alike 44 = .ok (.invokevirtual 333, 3) := by decide +kernel
theorem dX12_alike_47 : decode cX12_alike 47 = .ok (.invokevirtual 336, 3) := by decide +kernel
theorem dX12_alike_50 : decode cX12_alike 50 = .ok (.istore_n 3, 1) := by decide +kernel
theorem dX12_alike_51 : decode cX12_alike 51 = .ok (.iload_n 2, 1) := by decide +kernel
theorem dX12_alike_52 : decode cX12_alike 52 = .ok (.istore 4, 2) := by decide +kernel
theorem dX12_alike_54 : decode cX12_alike 54 = .ok (.iload 4, 2) := by decide +kernel
theorem dX12_alike_56 : decode cX12_alike 56 = .ok (.iconst 1, 1) := by decide +kernel
theorem dX12_alike_57 : decode cX12_alike 57 = .ok (.if_icmp .le 25, 3) := by decide +kernel
theorem dX12_alike_60 : decode cX12_alike 60 = .ok (.aload_n 0, 1) := by decide +kernel
theorem dX12_alike_61 : decode cX12_alike 61 = .ok (.iload 4, 2) := by decide +kernel
theorem dX12_alike_63 : decode cX12_alike 63 = .ok (.iconst 1, 1) := by decide +kernel
theorem dX12_alike_64 : decode cX12_alike 64 = .ok (.isub, 1) := by decide +kernel
theorem dX12_alike_65 : decode cX12_alike 65 = .ok (.invokevirtual 333, 3) := by decide +kernel
theorem dX12_alike_68 : decode cX12_alike 68 = .ok (.aload_n 0, 1) := by decide +kernel
theorem dX12_alike_69 : decode cX12_alike 69 = .ok (.iload_n 2, 1) := by decide +kernel
theorem dX12_alike_70 : decode cX12_alike 70 = .ok (.invokevirtual 333, 3) := by decide +kernel
theorem dX12_alike_73 : decode cX12_alike 73 = .ok (.if_icmp .ne 9, 3) := by decide +kernel
theorem dX12_alike_76 : decode cX12_alike 76 = .ok (.iinc 4 (-1), 3) := by decide +kernel
theorem dX12_alike_79 : decode cX12_alike 79 = .ok (.goto (-25), 3) := by decide +kernel
theorem dX12_alike_82 : decode cX12_alike 82 = .ok (.aload_n 0, 1) := by decide +kernel
theorem dX12_alike_83 : decode cX12_alike 83 = .ok (.iconst 0, 1) := by decide +kernel
theorem dX12_alike_84 : decode cX12_alike 84 = .ok (.putfield 98, 3) := by decide +kernel
theorem dX12_alike_87 : decode cX12_alike 87 = .ok (.aload_n 0, 1) := by decide +kernel
theorem dX12_alike_88 : decode cX12_alike 88 = .ok (.iload 4, 2) := by decide +kernel
theorem dX12_alike_90 : decode cX12_alike 90 = .ok (.i2l, 1) := by decide +kernel
theorem dX12_alike_91 : decode cX12_alike 91 = .ok (.invokevirtual 269, 3) := by decide +kernel
theorem dX12_alike_94 : decode cX12_alike 94 = .ok (.aload_n 0, 1) := by decide +kernel
theorem dX12_alike_95 : decode cX12_alike 95 = .ok (.iload_n 3, 1) := by decide +kernel
theorem dX12_alike_96 : decode cX12_alike 96 = .ok (.i2l, 1) := by decide +kernel
theorem dX12_alike_97 : decode cX12_alike 97 = .ok (.invokevirtual 269, 3) := by decide +kernel
theorem dX12_alike_100 : decode cX12_alike 100 = .ok (.iload_n 3, 1) := by decide +kernel
theorem dX12_alike_101 : decode cX12_alike 101 = .ok (.iload 4, 2) := by decide +kernel
theorem dX12_alike_103 : decode cX12_alike 103 = .ok (.isub, 1) := by decide +kernel
theorem dX12_alike_104 : decode cX12_alike 104 = .ok (.iconst 1, 1) := by decide +kernel
theorem dX12_alike_105 : decode cX12_alike 105 = .ok (.iadd, 1) := by decide +kernel
theorem dX12_alike_106 : decode cX12_alike 106 = .ok (.ireturn, 1) := by decide +kernel
theorem dX12_surely_0 : decode cX12_surely 0 = .ok (.aload_n 0, 1) := by decide +kernel
theorem dX12_surely_1 : decode cX12_surely 1 = .ok (.iconst 0, 1) := by decide +kernel
theorem dX12_surely_2 : decode cX12_surely 2 = .ok (.putfield 94, 3) := by decide +kernel
theorem dX12_surely_5 : decode cX12_surely 5 = .ok (.iload_n 1, 1) := by decide +kernel
theorem dX12_surely_6 : decode cX12_surely 6 = .ok (.invokestatic 324, 3) := by decide +kernel
theorem dX12_surely_9 : decode cX12_surely 9 = .ok (.ifCond .ne 5, 3) := by decide +kernel
theorem dX12_surely_12 : decode cX12_surely 12 = .ok (.iconst (-1), 1) := by decide +kernel
theorem dX12_surely_13 : decode cX12_surely 13 = .ok (.ireturn, 1) := by decide +kernel
theorem dX12_surely_14 : decode cX12_surely 14 = .ok (.aload_n 0, 1) := by decide +kernel
theorem dX12_surely_15 : decode cX12_surely 15 = .ok (.aload_n 0, 1) := by decide +kernel
theorem dX12_surely_16 : decode cX12_surely 16 = .ok (.getfield 9, 3) := by decide +kernel
theorem dX12_surely_19 : decode cX12_surely 19 = .ok (.iload_n 1, 1) := by decide +kernel
theorem dX12_surely_20 : decode cX12_surely 20 = .ok (.invokevirtual 327, 3) := by decide +kernel
theorem dX12_surely_23 : decode cX12_surely 23 = .ok (.ifCond .ne 6, 3) := by decide +kernel
theorem dX12_surely_26 : decode cX12_surely 26 = .ok (.bipush (-2), 2) := by decide +kernel
theorem dX12_surely_28 : decode cX12_surely 28 = .ok (.ireturn, 1) := by decide +kernel
theorem dX12_surely_29 : decode cX12_surely 29 = .ok (.aload_n 0, 1) := by decide +kernel
theorem dX12_surely_30 : decode cX12_surely 30 = .ok (.aload_n 0, 1) := by decide +kernel
theorem dX12_surely_31 : decode cX12_surely 31 = .ok (.iconst 1, 1) := by decide +kernel
theorem dX12_surely_32 : decode cX12_surely 32 = .ok (.invokevirtual 333, 3) := by decide +kernel
theorem dX12_surely_35 : decode cX12_surely 35 = .ok (.invokevirtual 336, 3) := by decide +kernel
theorem dX12_surely_38 : decode cX12_surely 38 = .ok (.istore_n 2, 1) := by decide +kernel
theorem dX12_surely_39 : decode cX12_surely 39 = .ok (.iconst 0, 1) := by decide +kernel
theorem dX12_surely_40 : decode cX12_surely 40 = .ok (.istore_n 3, 1) := by decide +kernel
theorem dX12_surely_41 : decode cX12_surely 41 = .ok (.iconst 0, 1) := by decide +kernel
theorem dX12_surely_42 : decode cX12_surely 42 = .ok (.istore 4, 2) := by decide +kernel
theorem dX12_surely_44 : decode cX12_surely 44 = .ok (.iload 4, 2) := by decide +kernel
theorem dX12_surely_46 : decode cX12_surely 46 = .ok (.bipush 8, 2) := by decide +kernel
theorem dX12_surely_48 : decode cX12_surely 48 = .ok (.if_icmp .ge 130, 3) := by decide +kernel
theorem dX12_surely_51 : decode cX12_surely 51 = .ok (.iload 4, 2) := by decide +kernel
theorem dX12_surely_53 : decode cX12_surely 53 = .ok (.aload_n 0, 1) := by decide +kernel
theorem dX12_surely_54 : decode cX12_surely 54 = .ok (.getfield 48, 3) := by decide +kernel
theorem dX12_surely_57 : decode cX12_surely 57 = .ok (.aload_n 0, 1) := by decide +kernel
theorem dX12_surely_58 : decode cX12_surely 58 = .ok (.getfield 54, 3) := by decide +kernel
theorem dX12_surely_61 : decode cX12_surely 61 = .ok (.iconst 0, 1) := by decide +kernel
theorem dX12_surely_62 : decode cX12_surely 62 = .ok (.iaload, 1) := by decide +kernel
theorem dX12_surely_63 : decode cX12_surely 63 = .ok (.iaload, 1) := by decide +kernel
theorem dX12_surely_64 : decode cX12_surely 64 = .ok (.if_icmp .ge 7, 3) := by decide +kernel
theorem dX12_surely_67 : decode cX12_surely 67 = .ok (.iconst 1, 1) := by decide +kernel
theorem dX12_surely_68 : decode cX12_surely 68 = .ok (.goto 4, 3) := by decide +kernel
theorem dX12_surely_71 : decode cX12_surely 71 = .ok (.iconst 0, 1) := by decide +kernel
theorem dX12_surely_72 : decode cX12_surely 72 = .ok (.istore 5, 2) := by decide +kernel
theorem dX12_surely_74 : decode cX12_surely 74 = .ok (.iconst 1, 1) := by decide +kernel
theorem dX12_surely_75 : decode cX12_surely 75 = .ok (.istore 6, 2) := by decide +kernel
theorem dX12_surely_77 : decode cX12_surely 77 = .ok (.iload 6, 2) := by decide +kernel
theorem dX12_surely_79 : decode cX12_surely 79 = .ok (.iload_n 2, 1) := by decide +kernel
theorem dX12_surely_80 : decode cX12_surely 80 = .ok (.if_icmp .ge 76, 3) := by decide +kernel
theorem dX12_surely_83 : decode cX12_surely 83 = .ok (.iload 5, 2) := by decide +kernel
theorem dX12_surely_85 : decode cX12_surely 85 = .ok (.ifCond .eq 71, 3) := by decide +kernel
theorem dX12_surely_88 : decode cX12_surely 88 = .ok (.iload 4, 2) := by decide +kernel
theorem dX12_surely_90 : decode cX12_surely 90 = .ok (.aload_n 0, 1) := by decide +kernel
theorem dX12_surely_91 : decode cX12_surely 91 = .ok (.getfield 48, 3) := by decide +kernel
theorem dX12_surely_94 : decode cX12_surely 94 = .ok (.aload_n 0, 1) := by decide +kernel
theorem dX12_surely_95 : decode cX12_surely 95 = .ok (.getfield 54, 3) := by decide +kernel
theorem dX12_surely_98 : decode cX12_surely 98 = .ok (.iload 6, 2) := by decide +kernel
theorem dX12_surely_100 : decode cX12_surely 100 = .ok (.iaload, 1) := by decide +kernel
theorem dX12_surely_101 : decode cX12_surely 101 = .ok (.iaload, 1) := by decide +kernel
theorem dX12_surely_102 : decode cX12_surely 102 = .ok (.if_icmp .ge 45, 3) := by decide +kernel
theorem dX12_surely_105 : decode cX12_surely 105 = .ok (.aload_n 0, 1) := by decide +kernel
theorem dX12_surely_106 : decode cX12_surely 106 = .ok (.getfield 45, 3) := by decide +kernel
theorem dX12_surely_109 : decode cX12_surely 109 = .ok (.bipush 8, 2) := by decide +kernel
theorem dX12_surely_111 : decode cX12_surely 111 = .ok (.aload_n 0, 1) := by decide +kernel
theorem dX12_surely_112 : decode cX12_surely 112 = .ok (.getfield 54, 3) := by decide +kernel
theorem dX12_surely_115 : decode cX12_surely 115 = .ok (.iload 6, 2) := by decide +kernel
theorem dX12_surely_117 : decode cX12_surely 117 = .ok (.iaload, 1) := by decide +kernel
theorem dX12_surely_118 : decode cX12_surely 118 = .ok (.imul, 1) := by decide +kernel
theorem dX12_surely_119 : decode cX12_surely 119 = .ok (.iload 4, 2) := by decide +kernel
theorem dX12_surely_121 : decode cX12_surely 121 = .ok (.iadd, 1) := by decide +kernel
theorem dX12_surely_122 : decode cX12_surely 122 = .ok (.iaload, 1) := by decide +kernel
theorem dX12_surely_123 : decode cX12_surely 123 = .ok (.aload_n 0, 1) := by decide +kernel
theorem dX12_surely_124 : decode cX12_surely 124 = .ok (.getfield 45, 3) := by decide +kernel
theorem dX12_surely_127 : decode cX12_surely 127 = .ok (.bipush 8, 2) := by decide +kernel
theorem dX12_surely_129 : decode cX12_surely 129 = .ok (.aload_n 0, 1) := by decide +kernel
theorem dX12_surely_130 : decode cX12_surely 130 = .ok (.getfield 54, 3) := by decide +kernel
theorem dX12_surely_133 : decode cX12_surely 133 = .ok (.iconst 0, 1) := by decide +kernel
theorem dX12_surely_134 : decode cX12_surely 134 = .ok (.iaload, 1) := by decide +kernel
theorem dX12_surely_135 : decode cX12_surely 135 = .ok (.imul, 1) := by decide +kernel
theorem dX12_surely_136 : decode cX12_surely 136 = .ok (.iload 4, 2) := by decide +kernel
theorem dX12_surely_138 : decode cX12_surely 138 = .ok (.iadd, 1) := by decide +kernel
theorem dX12_surely_139 : decode cX12_surely 139 = .ok (.iaload, 1) := by decide +kernel
theorem dX12_surely_140 : decode cX12_surely 140 = .ok (.if_icmp .ne 7, 3) := by decide +kernel
theorem dX12_surely_143 : decode cX12_surely 143 = .ok (.iconst 1, 1) := by decide +kernel
theorem dX12_surely_144 : decode cX12_surely 144 = .ok (.goto 4, 3) := by decide +kernel
theorem dX12_surely_147 : decode cX12_surely 147 = .ok (.iconst 0, 1) := by decide +kernel
theorem dX12_surely_148 : decode cX12_surely 148 = .ok (.istore 5, 2) := by decide +kernel
theorem dX12_surely_150 : decode cX12_surely 150 = .ok (.iinc 6 1, 3) := by decide +kernel
theorem dX12_surely_153 : decode cX12_surely 153 = .ok (.goto (-76), 3) := by decide +kernel
theorem dX12_surely_156 : decode cX12_surely 156 = .ok (.iload_n 3, 1) := by decide +kernel
theorem dX12_surely_157 : decode cX12_surely 157 = .ok (.iload 5, 2) := by decide +kernel
theorem dX12_surely_159 : decode cX12_surely 159 = .ok (.ifCond .eq 10, 3) := by decide +kernel
theorem dX12_surely_162 : decode cX12_surely 162 = .ok (.iconst 1, 1) := by decide +kernel
theorem dX12_surely_163 : decode cX12_surely 163 = .ok (.iload 4, 2) := by decide +kernel
theorem dX12_surely_165 : decode cX12_surely 165 = .ok (.ishl, 1) := by decide +kernel
theorem dX12_surely_166 : decode cX12_surely 166 = .ok (.goto 4, 3) := by decide +kernel
theorem dX12_surely_169 : decode cX12_surely 169 = .ok (.iconst 0, 1) := by decide +kernel
theorem dX12_surely_170 : decode cX12_surely 170 = .ok (.ior, 1) := by decide +kernel
theorem dX12_surely_171 : decode cX12_surely 171 = .ok (.istore_n 3, 1) := by decide +kernel
theorem dX12_surely_172 : decode cX12_surely 172 = .ok (.iinc 4 1, 3) := by decide +kernel
theorem dX12_surely_175 : decode cX12_surely 175 = .ok (.goto (-131), 3) := by decide +kernel
theorem dX12_surely_178 : decode cX12_surely 178 = .ok (.aload_n 0, 1) := by decide +kernel
theorem dX12_surely_179 : decode cX12_surely 179 = .ok (.iconst 0, 1) := by decide +kernel
theorem dX12_surely_180 : decode cX12_surely 180 = .ok (.putfield 98, 3) := by decide +kernel
theorem dX12_surely_183 : decode cX12_surely 183 = .ok (.aload_n 0, 1) := by decide +kernel
theorem dX12_surely_184 : decode cX12_surely 184 = .ok (.iload_n 3, 1) := by decide +kernel
theorem dX12_surely_185 : decode cX12_surely 185 = .ok (.invokestatic 315, 3) := by decide +kernel
theorem dX12_surely_188 : decode cX12_surely 188 = .ok (.i2l, 1) := by decide +kernel
theorem dX12_surely_189 : decode cX12_surely 189 = .ok (.invokevirtual 269, 3) := by decide +kernel
theorem dX12_surely_192 : decode cX12_surely 192 = .ok (.iload_n 3, 1) := by decide +kernel
theorem dX12_surely_193 : decode cX12_surely 193 = .ok (.ireturn, 1) := by decide +kernel
theorem dX12_having_0 : decode cX12_having 0 = .ok (.aload_n 0, 1) := by decide +kernel
theorem dX12_having_1 : decode cX12_having 1 = .ok (.iconst 0, 1) := by decide +kernel
theorem dX12_having_2 : decode cX12_having 2 = .ok (.putfield 94, 3) := by decide +kernel
theorem dX12_having_5 : decode cX12_having 5 = .ok (.iload_n 1, 1) := by decide +kernel
theorem dX12_having_6 : decode cX12_having 6 = .ok (.invokestatic 324, 3) := by decide +kernel
theorem dX12_having_9 : decode cX12_having 9 = .ok (.ifCond .eq 33, 3) := by decide +kernel
theorem dX12_having_12 : decode cX12_having 12 = .ok (.iload_n 2, 1) := by decide +kernel
theorem dX12_having_13 : decode cX12_having 13 = .ok (.iconst 0, 1) := by decide +kernel
theorem dX12_having_14 : decode cX12_having 14 = .ok (.bipush 7, 2) := by decide +kernel
theorem dX12_having_16 : decode cX12_having 16 = .ok (.invokestatic 101, 3) := by decide +kernel
theorem dX12_having_19 : decode cX12_having 19 = .ok (.ifCond .eq 23, 3) := by decide +kernel
theorem dX12_having_22 : decode cX12_having 22 = .ok (.iload_n 3, 1) := by decide +kernel
theorem dX12_having_23 : decode cX12_having 23 = .ok (.iconst 0, 1) := by decide +kernel
theorem dX12_having_24 : decode cX12_having 24 = .ok (.bipush 11, 2) := by decide +kernel
theorem dX12_having_26 : decode cX12_having 26 = .ok (.invokestatic 101, 3) := by decide +kernel
theorem dX12_having_29 : decode cX12_having 29 = .ok (.ifCond .eq 13, 3) := by decide +kernel
theorem dX12_having_32 : decode cX12_having 32 = .ok (.iload 4, 2) := by decide +kernel
theorem dX12_having_34 : decode cX12_having 34 = .ok (.iconst 0, 1) := by decide +kernel
theorem dX12_having_35 : decode cX12_having 35 = .ok (.iconst 1, 1) := by decide +kernel
theorem dX12_having_36 : decode cX12_having 36 = .ok (.invokestatic 101, 3) := by decide +kernel
theorem dX12_having_39 : decode cX12_having 39 = .ok (.ifCond .ne 5, 3) := by decide +kernel
theorem dX12_having_42 : decode cX12_having 42 = .ok (.iconst (-1), 1) := by decide +kernel
theorem dX12_having_43 : decode cX12_having 43 = .ok (.ireturn, 1) := by decide +kernel
theorem dX12_having_44 : decode cX12_having 44 = .ok (.aload_n 0, 1) := by decide +kernel
theorem dX12_having_45 : decode cX12_having 45 = .ok (.aload_n 0, 1) := by decide +kernel
theorem dX12_having_46 : decode cX12_having 46 = .ok (.getfield 9, 3) := by decide +kernel
theorem dX12_having_49 : decode cX12_having 49 = .ok (.iload_n 1, 1) := by decide +kernel
theorem dX12_having_50 : decode cX12_having 50 = .ok (.invokevirtual 327, 3) := by decide +kernel
theorem dX12_having_53 : decode cX12_having 53 = .ok (.istore 5, 2) := by decide +kernel
theorem dX12_having_55 : decode cX12_having 55 = .ok (.iconst 0, 1) := by decide +kernel
theorem dX12_having_56 : decode cX12_having 56 = .ok (.istore 6, 2) := by decide +kernel
theorem dX12_having_58 : decode cX12_having 58 = .ok (.aload_n 0, 1) := by decide +kernel
theorem dX12_having_59 : decode cX12_having 59 = .ok (.iconst 0, 1) := by decide +kernel
theorem dX12_having_60 : decode cX12_having 60 = .ok (.putfield 98, 3) := by decide +kernel
theorem dX12_having_63 : decode cX12_having 63 = .ok (.iconst 1, 1) := by decide +kernel
theorem dX12_having_64 : decode cX12_having 64 = .ok (.istore 7, 2) := by decide +kernel
theorem dX12_having_66 : decode cX12_having 66 = .ok (.iload 7, 2) := by decide +kernel
theorem dX12_having_68 : decode cX12_having 68 = .ok (.iload 5, 2) := by decide +kernel
theorem dX12_having_70 : decode cX12_having 70 = .ok (.if_icmp .gt 99, 3) := by decide +kernel
theorem dX12_having_73 : decode cX12_having 73 = .ok (.aload_n 0, 1) := by decide +kernel
theorem dX12_having_74 : decode cX12_having 74 = .ok (.getfield 54, 3) := by decide +kernel
theorem dX12_having_77 : decode cX12_having 77 = .ok (.iload 7, 2) := by decide +kernel
theorem dX12_having_79 : decode cX12_having 79 = .ok (.iconst 1, 1) := by decide +kernel
theorem dX12_having_80 : decode cX12_having 80 = .ok (.isub, 1) := by decide +kernel
theorem dX12_having_81 : decode cX12_having 81 = .ok (.iaload, 1) := by decide +kernel
theorem dX12_having_82 : decode cX12_having 82 = .ok (.istore 8, 2) := by decide +kernel
theorem dX12_having_84 : decode cX12_having 84 = .ok (.iload_n 2, 1) := by decide +kernel
theorem dX12_having_85 : decode cX12_having 85 = .ok (.aload_n 0, 1) := by decide +kernel
theorem dX12_having_86 : decode cX12_having 86 = .ok (.getfield 48, 3) := by decide +kernel
theorem dX12_having_89 : decode cX12_having 89 = .ok (.iload 8, 2) := by decide +kernel
theorem dX12_having_91 : decode cX12_having 91 = .ok (.iaload, 1) := by decide +kernel
theorem dX12_having_92 : decode cX12_having 92 = .ok (.if_icmp .ge 23, 3) := by decide +kernel
theorem dX12_having_95 : decode cX12_having 95 = .ok (.aload_n 0, 1) := by decide +kernel
theorem dX12_having_96 : decode cX12_having 96 = .ok (.getfield 45, 3) := by decide +kernel
theorem dX12_having_99 : decode cX12_having 99 = .ok (.bipush 8, 2) := by decide +kernel
theorem dX12_having_101 : decode cX12_having 101 = .ok (.iload 8, 2) := by decide +kernel
theorem dX12_having_103 : decode cX12_having 103 = .ok (.imul, 1) := by decide +kernel
theorem dX12_having_104 : decode cX12_having 104 = .ok (.iload_n 2, 1) := by decide +kernel
theorem dX12_having_105 : decode cX12_having 105 = .ok (.iadd, 1) := by decide +kernel
theorem dX12_having_106 : decode cX12_having 106 = .ok (.iaload, 1) := by decide +kernel
theorem dX12_having_107 : decode cX12_having 107 = .ok (.iload_n 3, 1) := by decide +kernel
theorem dX12_having_108 : decode cX12_having 108 = .ok (.if_icmp .ne 7, 3) := by decide +kernel
theorem dX12_having_111 : decode cX12_having 111 = .ok (.iconst 1, 1) := by decide +kernel
theorem dX12_having_112 : decode cX12_having 112 = .ok (.goto 4, 3) := by decide +kernel
theorem dX12_having_115 : decode cX12_having 115 = .ok (.iconst 0, 1) := by decide +kernel
theorem dX12_having_116 : decode cX12_having 116 = .ok (.istore 9, 2) := by decide +kernel
theorem dX12_having_118 : decode cX12_having 118 = .ok (.iload 9, 2) := by decide +kernel
theorem dX12_having_120 : decode cX12_having 120 = .ok (.iload 4, 2) := by decide +kernel
theorem dX12_having_122 : decode cX12_having 122 = .ok (.iconst 1, 1) := by decide +kernel
theorem dX12_having_123 : decode cX12_having 123 = .ok (.if_icmp .ne 7, 3) := by decide +kernel
theorem dX12_having_126 : decode cX12_having 126 = .ok (.iconst 1, 1) := by decide +kernel
theorem dX12_having_127 : decode cX12_having 127 = .ok (.goto 4, 3) := by decide +kernel
theorem dX12_having_130 : decode cX12_having 130 = .ok (.iconst 0, 1) := by decide +kernel
theorem dX12_having_131 : decode cX12_having 131 = .ok (.if_icmp .eq 6, 3) := by decide +kernel
theorem dX12_having_134 : decode cX12_having 134 = .ok (.goto 29, 3) := by decide +kernel
theorem dX12_having_137 : decode cX12_having 137 = .ok (.iload 6, 2) := by decide +kernel
theorem dX12_having_139 : decode cX12_having 139 = .ok (.ifCond .ne 21, 3) := by decide +kernel
theorem dX12_having_142 : decode cX12_having 142 = .ok (.aload_n 0, 1) := by decide +kernel
theorem dX12_having_143 : decode cX12_having 143 = .ok (.iload 7, 2) := by decide +kernel
theorem dX12_having_145 : decode cX12_having 145 = .ok (.i2l, 1) := by decide +kernel
theorem dX12_having_146 : decode cX12_having 146 = .ok (.invokevirtual 269, 3) := by decide +kernel
theorem dX12_having_149 : decode cX12_having 149 = .ok (.aload_n 0, 1) := by decide +kernel
theorem dX12_having_150 : decode cX12_having 150 = .ok (.aload_n 0, 1) := by decide +kernel
theorem dX12_having_151 : decode cX12_having 151 = .ok (.iload 7, 2) := by decide +kernel
theorem dX12_having_153 : decode cX12_having 153 = .ok (.invokevirtual 333, 3) := by decide +kernel
theorem dX12_having_156 : decode cX12_having 156 = .ok (.i2l, 1) := by decide +kernel
theorem dX12_having_157 : decode cX12_having 157 = .ok (.invokevirtual 269, 3) := by decide +kernel
theorem dX12_having_160 : decode cX12_having 160 = .ok (.iinc 6 1, 3) := by decide +kernel
theorem dX12_having_163 : decode cX12_having 163 = .ok (.iinc 7 1, 3) := by decide +kernel
theorem dX12_having_166 : decode cX12_having 166 = .ok (.goto (-100), 3) := by decide +kernel
theorem dX12_having_169 : decode cX12_having 169 = .ok (.iload 6, 2) := by decide +kernel
theorem dX12_having_171 : decode cX12_having 171 = .ok (.ireturn, 1) := by decide +kernel
theorem dX12_differ_0 : decode cX12_differ 0 = .ok (.aload_n 0, 1) := by decide +kernel
theorem dX12_differ_1 : decode cX12_differ 1 = .ok (.iconst 0, 1) := by decide +kernel
theorem dX12_differ_2 : decode cX12_differ 2 = .ok (.putfield 94, 3) := by decide +kernel
theorem dX12_differ_5 : decode cX12_differ 5 = .ok (.iload_n 1, 1) := by decide +kernel
theorem dX12_differ_6 : decode cX12_differ 6 = .ok (.invokestatic 324, 3) := by decide +kernel
theorem dX12_differ_9 : decode cX12_differ 9 = .ok (.ifCond .eq 25, 3) := by decide +kernel
theorem dX12_differ_12 : decode cX12_differ 12 = .ok (.iload_n 2, 1) := by decide +kernel
theorem dX12_differ_13 : decode cX12_differ 13 = .ok (.iconst 1, 1) := by decide +kernel
theorem dX12_differ_14 : decode cX12_differ 14 = .ok (.sipush 400, 3) := by decide +kernel
theorem dX12_differ_17 : decode cX12_differ 17 = .ok (.invokestatic 101, 3) := by decide +kernel
theorem dX12_differ_20 : decode cX12_differ 20 = .ok (.ifCond .eq 14, 3) := by decide +kernel
theorem dX12_differ_23 : decode cX12_differ 23 = .ok (.iload_n 3, 1) := by decide +kernel
theorem dX12_differ_24 : decode cX12_differ 24 = .ok (.iconst 1, 1) := by decide +kernel
theorem dX12_differ_25 : decode cX12_differ 25 = .ok (.sipush 400, 3) := by decide +kernel
theorem dX12_differ_28 : decode cX12_differ 28 = .ok (.invokestatic 101, 3) := by decide +kernel
theorem dX12_differ_31 : decode cX12_differ 31 = .ok (.ifCond .ne 5, 3) := by decide +kernel
theorem dX12_differ_34 : decode cX12_differ 34 = .ok (.iconst (-1), 1) := by decide +kernel
theorem dX12_differ_35 : decode cX12_differ 35 = .ok (.ireturn, 1) := by decide +kernel
theorem dX12_differ_36 : decode cX12_differ 36 = .ok (.aload_n 0, 1) := by decide +kernel
theorem dX12_differ_37 : decode cX12_differ 37 = .ok (.aload_n 0, 1) := by decide +kernel
theorem dX12_differ_38 : decode cX12_differ 38 = .ok (.getfield 9, 3) := by decide +kernel
theorem dX12_differ_41 : decode cX12_differ 41 = .ok (.iload_n 1, 1) := by decide +kernel
theorem dX12_differ_42 : decode cX12_differ 42 = .ok (.invokevirtual 327, 3) := by decide +kernel
theorem dX12_differ_45 : decode cX12_differ 45 = .ok (.iload_n 2, 1) := by decide +kernel
theorem dX12_differ_46 : decode cX12_differ 46 = .ok (.iload_n 3, 1) := by decide +kernel
theorem dX12_differ_47 : decode cX12_differ 47 = .ok (.invokestatic 204, 3) := by decide +kernel
theorem dX12_differ_50 : decode cX12_differ 50 = .ok (.if_icmp .ge 6, 3) := by decide +kernel
theorem dX12_differ_53 : decode cX12_differ 53 = .ok (.bipush (-2), 2) := by decide +kernel
theorem dX12_differ_55 : decode cX12_differ 55 = .ok (.ireturn, 1) := by decide +kernel
theorem dX12_differ_56 : decode cX12_differ 56 = .ok (.aload_n 0, 1) := by decide +kernel
theorem dX12_differ_57 : decode cX12_differ 57 = .ok (.getfield 54, 3) := by decide +kernel
theorem dX12_differ_60 : decode cX12_differ 60 = .ok (.iload_n 2, 1) := by decide +kernel
theorem dX12_differ_61 : decode cX12_differ 61 = .ok (.iconst 1, 1) := by decide +kernel
theorem dX12_differ_62 : decode cX12_differ 62 = .ok (.isub, 1) := by decide +kernel
theorem dX12_differ_63 : decode cX12_differ 63 = .ok (.iaload, 1) := by decide +kernel
theorem dX12_differ_64 : decode cX12_differ 64 = .ok (.istore 4, 2) := by decide +kernel
theorem dX12_differ_66 : decode cX12_differ 66 = .ok (.aload_n 0, 1) := by decide +kernel
theorem dX12_differ_67 : decode cX12_differ 67 = .ok (.getfield 54, 3) := by decide +kernel
theorem dX12_differ_70 : decode cX12_differ 70 = .ok (.iload_n 3, 1) := by decide +kernel
theorem dX12_differ_71 : decode cX12_differ 71 = .ok (.iconst 1, 1) := by decide +kernel
theorem dX12_differ_72 : decode cX12_differ 72 = .ok (.isub, 1) := by decide +kernel
theorem dX12_differ_73 : decode cX12_differ 73 = .ok (.iaload, 1) := by decide +kernel
theorem dX12_differ_74 : decode cX12_differ 74 = .ok (.istore 5, 2) := by decide +kernel
theorem dX12_differ_76 : decode cX12_differ 76 = .ok (.iconst 0, 1) := by decide +kernel
theorem dX12_differ_77 : decode cX12_differ 77 = .ok (.istore 6, 2) := by decide +kernel
theorem dX12_differ_79 : decode cX12_differ 79 = .ok (.aload_n 0, 1) := by decide +kernel
theorem dX12_differ_80 : decode cX12_differ 80 = .ok (.iconst 0, 1) := by decide +kernel
theorem dX12_differ_81 : decode cX12_differ 81 = .ok (.putfield 98, 3) := by decide +kernel
theorem dX12_differ_84 : decode cX12_differ 84 = .ok (.iconst 0, 1) := by decide +kernel
theorem dX12_differ_85 : decode cX12_differ 85 = .ok (.istore 7, 2) := by decide +kernel
theorem dX12_differ_87 : decode cX12_differ 87 = .ok (.iload 7, 2) := by decide +kernel
theorem dX12_differ_89 : decode cX12_differ 89 = .ok (.aload_n 0, 1) := by decide +kernel
theorem dX12_differ_90 : decode cX12_differ 90 = .ok (.getfield 48, 3) := by decide +kernel
theorem dX12_differ_93 : decode cX12_differ 93 = .ok (.iload 4, 2) := by decide +kernel
theorem dX12_differ_95 : decode cX12_differ 95 = .ok (.iaload, 1) := by decide +kernel
theorem dX12_differ_96 : decode cX12_differ 96 = .ok (.aload_n 0, 1) := by decide +kernel
theorem dX12_differ_97 : decode cX12_differ 97 = .ok (.getfield 48, 3) := by decide +kernel
theorem dX12_differ_100 : decode cX12_differ 100 = .ok (.iload 5, 2) := by decide +kernel
theorem dX12_differ_102 : decode cX12_differ 102 = .ok (.iaload, 1) := by decide +kernel
theorem dX12_differ_103 : decode cX12_differ 103 = .ok (.invokestatic 204, 3) := by decide +kernel
theorem dX12_differ_106 : decode cX12_differ 106 = .ok (.if_icmp .ge 80, 3) := by decide +kernel
theorem dX12_differ_109 : decode cX12_differ 109 = .ok (.iload 7, 2) := by decide +kernel
theorem dX12_differ_111 : decode cX12_differ 111 = .ok (.aload_n 0, 1) := by decide +kernel
theorem dX12_differ_112 : decode cX12_differ 112 = .ok (.getfield 48, 3) := by decide +kernel
theorem dX12_differ_115 : decode cX12_differ 115 = .ok (.iload 4, 2) := by decide +kernel
theorem dX12_differ_117 : decode cX12_differ 117 = .ok (.iaload, 1) := by decide +kernel
theorem dX12_differ_118 : decode cX12_differ 118 = .ok (.if_icmp .ge 47, 3) := by decide +kernel
theorem dX12_differ_121 : decode cX12_differ 121 = .ok (.iload 7, 2) := by decide +kernel
theorem dX12_differ_123 : decode cX12_differ 123 = .ok (.aload_n 0, 1) := by decide +kernel
theorem dX12_differ_124 : decode cX12_differ 124 = .ok (.getfield 48, 3) := by decide +kernel
theorem dX12_differ_127 : decode cX12_differ 127 = .ok (.iload 5, 2) := by decide +kernel
theorem dX12_differ_129 : decode cX12_differ 129 = .ok (.iaload, 1) := by decide +kernel
theorem dX12_differ_130 : decode cX12_differ 130 = .ok (.if_icmp .ge 35, 3) := by decide +kernel
theorem dX12_differ_133 : decode cX12_differ 133 = .ok (.aload_n 0, 1) := by decide +kernel
theorem dX12_differ_134 : decode cX12_differ 134 = .ok (.getfield 45, 3) := by decide +kernel
theorem dX12_differ_137 : decode cX12_differ 137 = .ok (.bipush 8, 2) := by decide +kernel
theorem dX12_differ_139 : decode cX12_differ 139 = .ok (.iload 4, 2) := by decide +kernel
theorem dX12_differ_141 : decode cX12_differ 141 = .ok (.imul, 1) := by decide +kernel
theorem dX12_differ_142 : decode cX12_differ 142 = .ok (.iload 7, 2) := by decide +kernel
theorem dX12_differ_144 : decode cX12_differ 144 = .ok (.iadd, 1) := by decide +kernel
theorem dX12_differ_145 : decode cX12_differ 145 = .ok (.iaload, 1) := by decide +kernel
theorem dX12_differ_146 : decode cX12_differ 146 = .ok (.aload_n 0, 1) := by decide +kernel
theorem dX12_differ_147 : decode cX12_differ 147 = .ok (.getfield 45, 3) := by decide +kernel
theorem dX12_differ_150 : decode cX12_differ 150 = .ok (.bipush 8, 2) := by decide +kernel
theorem dX12_differ_152 : decode cX12_differ 152 = .ok (.iload 5, 2) := by decide +kernel
theorem dX12_differ_154 : decode cX12_differ 154 = .ok (.imul, 1) := by decide +kernel
theorem dX12_differ_155 : decode cX12_differ 155 = .ok (.iload 7, 2) := by decide +kernel
theorem dX12_differ_157 : decode cX12_differ 157 = .ok (.iadd, 1) := by decide +kernel
theorem dX12_differ_158 : decode cX12_differ 158 = .ok (.iaload, 1) := by decide +kernel
theorem dX12_differ_159 : decode cX12_differ 159 = .ok (.if_icmp .ne 6, 3) := by decide +kernel
theorem dX12_differ_162 : decode cX12_differ 162 = .ok (.goto 18, 3) := by decide +kernel
theorem dX12_differ_165 : decode cX12_differ 165 = .ok (.iload 6, 2) := by decide +kernel
theorem dX12_differ_167 : decode cX12_differ 167 = .ok (.ifCond .ne 10, 3) := by decide +kernel
theorem dX12_differ_170 : decode cX12_differ 170 = .ok (.aload_n 0, 1) := by decide +kernel
theorem dX12_differ_171 : decode cX12_differ 171 = .ok (.iload 7, 2) := by decide +kernel
theorem dX12_differ_173 : decode cX12_differ 173 = .ok (.i2l, 1) := by decide +kernel
theorem dX12_differ_174 : decode cX12_differ 174 = .ok (.invokevirtual 269, 3) := by decide +kernel
theorem dX12_differ_177 : decode cX12_differ 177 = .ok (.iinc 6 1, 3) := by decide +kernel
theorem dX12_differ_180 : decode cX12_differ 180 = .ok (.iinc 7 1, 3) := by decide +kernel
theorem dX12_differ_183 : decode cX12_differ 183 = .ok (.goto (-96), 3) := by decide +kernel
theorem dX12_differ_186 : decode cX12_differ 186 = .ok (.iload 6, 2) := by decide +kernel
theorem dX12_differ_188 : decode cX12_differ 188 = .ok (.ireturn, 1) := by decide +kernel
theorem dX12_gap_0 : decode cX12_gap 0 = .ok (.aload_n 0, 1) := by decide +kernel
theorem dX12_gap_1 : decode cX12_gap 1 = .ok (.iconst 0, 1) := by decide +kernel
theorem dX12_gap_2 : decode cX12_gap 2 = .ok (.putfield 94, 3) := by decide +kernel
theorem dX12_gap_5 : decode cX12_gap 5 = .ok (.iload_n 1, 1) := by decide +kernel
theorem dX12_gap_6 : decode cX12_gap 6 = .ok (.invokestatic 324, 3) := by decide +kernel
theorem dX12_gap_9 : decode cX12_gap 9 = .ok (.ifCond .eq 14, 3) := by decide +kernel
theorem dX12_gap_12 : decode cX12_gap 12 = .ok (.iload_n 2, 1) := by decide +kernel
theorem dX12_gap_13 : decode cX12_gap 13 = .ok (.iconst 1, 1) := by decide +kernel
theorem dX12_gap_14 : decode cX12_gap 14 = .ok (.sipush 399, 3) := by decide +kernel
theorem dX12_gap_17 : decode cX12_gap 17 = .ok (.invokestatic 101, 3) := by decide +kernel
theorem dX12_gap_20 : decode cX12_gap 20 = .ok (.ifCond .ne 5, 3) := by decide +kernel
theorem dX12_gap_23 : decode cX12_gap 23 = .ok (.iconst (-1), 1) := by decide +kernel
theorem dX12_gap_24 : decode cX12_gap 24 = .ok (.ireturn, 1) := by decide +kernel
theorem dX12_gap_25 : decode cX12_gap 25 = .ok (.aload_n 0, 1) := by decide +kernel
theorem dX12_gap_26 : decode cX12_gap 26 = .ok (.aload_n 0, 1) := by decide +kernel
theorem dX12_gap_27 : decode cX12_gap 27 = .ok (.getfield 9, 3) := by decide +kernel
theorem dX12_gap_30 : decode cX12_gap 30 = .ok (.iload_n 1, 1) := by decide +kernel
theorem dX12_gap_31 : decode cX12_gap 31 = .ok (.invokevirtual 327, 3) := by decide +kernel
theorem dX12_gap_34 : decode cX12_gap 34 = .ok (.iload_n 2, 1) := by decide +kernel
theorem dX12_gap_35 : decode cX12_gap 35 = .ok (.iconst 1, 1) := by decide +kernel
theorem dX12_gap_36 : decode cX12_gap 36 = .ok (.iadd, 1) := by decide +kernel
theorem dX12_gap_37 : decode cX12_gap 37 = .ok (.if_icmp .ge 6, 3) := by decide +kernel
theorem dX12_gap_40 : decode cX12_gap 40 = .ok (.bipush (-2), 2) := by decide +kernel
theorem dX12_gap_42 : decode cX12_gap 42 = .ok (.ireturn, 1) := by decide +kernel
theorem dX12_gap_43 : decode cX12_gap 43 = .ok (.aload_n 0, 1) := by decide +kernel
theorem dX12_gap_44 : decode cX12_gap 44 = .ok (.iconst 0, 1) := by decide +kernel
theorem dX12_gap_45 : decode cX12_gap 45 = .ok (.putfield 98, 3) := by decide +kernel
theorem dX12_gap_48 : decode cX12_gap 48 = .ok (.aload_n 0, 1) := by decide +kernel
theorem dX12_gap_49 : decode cX12_gap 49 = .ok (.aload_n 0, 1) := by decide +kernel
theorem dX12_gap_50 : decode cX12_gap 50 = .ok (.iload_n 2, 1) := by decide +kernel
theorem dX12_gap_51 : decode cX12_gap 51 = .ok (.iconst 1, 1) := by decide +kernel
theorem dX12_gap_52 : decode cX12_gap 52 = .ok (.iadd, 1) := by decide +kernel
theorem dX12_gap_53 : decode cX12_gap 53 = .ok (.invokevirtual 333, 3) := by decide +kernel
theorem dX12_gap_56 : decode cX12_gap 56 = .ok (.i2l, 1) := by decide +kernel
theorem dX12_gap_57 : decode cX12_gap 57 = .ok (.aload_n 0, 1) := by decide +kernel
theorem dX12_gap_58 : decode cX12_gap 58 = .ok (.iload_n 2, 1) := by decide +kernel
theorem dX12_gap_59 : decode cX12_gap 59 = .ok (.invokevirtual 333, 3) := by decide +kernel
theorem dX12_gap_62 : decode cX12_gap 62 = .ok (.i2l, 1) := by decide +kernel
theorem dX12_gap_63 : decode cX12_gap 63 = .ok (.lsub, 1) := by decide +kernel
theorem dX12_gap_64 : decode cX12_gap 64 = .ok (.invokevirtual 269, 3) := by decide +kernel
theorem dX12_gap_67 : decode cX12_gap 67 = .ok (.iconst 0, 1) := by decide +kernel
theorem dX12_gap_68 : decode cX12_gap 68 = .ok (.ireturn, 1) := by decide +kernel
theorem dX12_opens_0 : decode cX12_opens 0 = .ok (.aload_n 0, 1) := by decide +kernel
theorem dX12_opens_1 : decode cX12_opens 1 = .ok (.iconst 0, 1) := by decide +kernel
theorem dX12_opens_2 : decode cX12_opens 2 = .ok (.putfield 94, 3) := by decide +kernel
theorem dX12_opens_5 : decode cX12_opens 5 = .ok (.iload_n 1, 1) := by decide +kernel
theorem dX12_opens_6 : decode cX12_opens 6 = .ok (.iconst 0, 1) := by decide +kernel
theorem dX12_opens_7 : decode cX12_opens 7 = .ok (.iconst 2, 1) := by decide +kernel
theorem dX12_opens_8 : decode cX12_opens 8 = .ok (.invokestatic 101, 3) := by decide +kernel
theorem dX12_opens_11 : decode cX12_opens 11 = .ok (.ifCond .eq 10, 3) := by decide +kernel
theorem dX12_opens_14 : decode cX12_opens 14 = .ok (.iload_n 2, 1) := by decide +kernel
theorem dX12_opens_15 : decode cX12_opens 15 = .ok (.invokestatic 324, 3) := by decide +kernel
theorem dX12_opens_18 : decode cX12_opens 18 = .ok (.ifCond .ne 5, 3) := by decide +kernel
theorem dX12_opens_21 : decode cX12_opens 21 = .ok (.iconst (-1), 1) := by decide +kernel
theorem dX12_opens_22 : decode cX12_opens 22 = .ok (.ireturn, 1) := by decide +kernel
theorem dX12_opens_23 : decode cX12_opens 23 = .ok (.aload_n 0, 1) := by decide +kernel
theorem dX12_opens_24 : decode cX12_opens 24 = .ok (.getfield 69, 3) := by decide +kernel
theorem dX12_opens_27 : decode cX12_opens 27 = .ok (.iload_n 1, 1) := by decide +kernel
theorem dX12_opens_28 : decode cX12_opens 28 = .ok (.iload_n 2, 1) := by decide +kernel
theorem dX12_opens_29 : decode cX12_opens 29 = .ok (.iastore, 1) := by decide +kernel
theorem dX12_opens_30 : decode cX12_opens 30 = .ok (.aload_n 0, 1) := by decide +kernel
theorem dX12_opens_31 : decode cX12_opens 31 = .ok (.getfield 72, 3) := by decide +kernel
theorem dX12_opens_34 : decode cX12_opens 34 = .ok (.iload_n 1, 1) := by decide +kernel
theorem dX12_opens_35 : decode cX12_opens 35 = .ok (.iconst 0, 1) := by decide +kernel
theorem dX12_opens_36 : decode cX12_opens 36 = .ok (.iastore, 1) := by decide +kernel
theorem dX12_opens_37 : decode cX12_opens 37 = .ok (.aload_n 0, 1) := by decide +kernel
theorem dX12_opens_38 : decode cX12_opens 38 = .ok (.getfield 75, 3) := by decide +kernel
theorem dX12_opens_41 : decode cX12_opens 41 = .ok (.iload_n 1, 1) := by decide +kernel
theorem dX12_opens_42 : decode cX12_opens 42 = .ok (.aload_n 0, 1) := by decide +kernel
theorem dX12_opens_43 : decode cX12_opens 43 = .ok (.getfield 201, 3) := by decide +kernel
theorem dX12_opens_46 : decode cX12_opens 46 = .ok (.iastore, 1) := by decide +kernel
theorem dX12_opens_47 : decode cX12_opens 47 = .ok (.aload_n 0, 1) := by decide +kernel
theorem dX12_opens_48 : decode cX12_opens 48 = .ok (.aload_n 0, 1) := by decide +kernel
theorem dX12_opens_49 : decode cX12_opens 49 = .ok (.getfield 9, 3) := by decide +kernel
theorem dX12_opens_52 : decode cX12_opens 52 = .ok (.iload_n 2, 1) := by decide +kernel
theorem dX12_opens_53 : decode cX12_opens 53 = .ok (.invokevirtual 327, 3) := by decide +kernel
theorem dX12_opens_56 : decode cX12_opens 56 = .ok (.ireturn, 1) := by decide +kernel
theorem dX12_refusesCursor_0 : decode cX12_refusesCursor 0 = .ok (.aload_n 0, 1) := by decide +kernel
theorem dX12_refusesCursor_1 : decode cX12_refusesCursor 1 = .ok (.getfield 69, 3) := by decide +kernel
theorem dX12_refusesCursor_4 : decode cX12_refusesCursor 4 = .ok (.iload_n 1, 1) := by decide +kernel
theorem dX12_refusesCursor_5 : decode cX12_refusesCursor 5 = .ok (.iaload, 1) := by decide +kernel
theorem dX12_refusesCursor_6 : decode cX12_refusesCursor 6 = .ok (.iconst (-1), 1) := by decide +kernel
theorem dX12_refusesCursor_7 : decode cX12_refusesCursor 7 = .ok (.if_icmp .ne 8, 3) := by decide +kernel
theorem dX12_refusesCursor_10 : decode cX12_refusesCursor 10 = .ok (.bipush (-3), 2) := by decide +kernel
theorem dX12_refusesCursor_12 : decode cX12_refusesCursor 12 = .ok (.goto 22, 3) := by decide +kernel
theorem dX12_refusesCursor_15 : decode cX12_refusesCursor 15 = .ok (.aload_n 0, 1) := by decide +kernel
theorem dX12_refusesCursor_16 : decode cX12_refusesCursor 16 = .ok (.getfield 75, 3) := by decide +kernel
theorem dX12_refusesCursor_19 : decode cX12_refusesCursor 19 = .ok (.iload_n 1, 1) := by decide +kernel
theorem dX12_refusesCursor_20 : decode cX12_refusesCursor 20 = .ok (.iaload, 1) := by decide +kernel
theorem dX12_refusesCursor_21 : decode cX12_refusesCursor 21 = .ok (.aload_n 0, 1) := by decide +kernel
theorem dX12_refusesCursor_22 : decode cX12_refusesCursor 22 = .ok (.getfield 201, 3) := by decide +kernel
theorem dX12_refusesCursor_25 : decode cX12_refusesCursor 25 = .ok (.if_icmp .eq 8, 3) := by decide +kernel
theorem dX12_refusesCursor_28 : decode cX12_refusesCursor 28 = .ok (.bipush (-4), 2) := by decide +kernel
theorem dX12_refusesCursor_30 : decode cX12_refusesCursor 30 = .ok (.goto 4, 3) := by decide +kernel
theorem dX12_refusesCursor_33 : decode cX12_refusesCursor 33 = .ok (.iconst 0, 1) := by decide +kernel
theorem dX12_refusesCursor_34 : decode cX12_refusesCursor 34 = .ok (.ireturn, 1) := by decide +kernel
theorem dX12_goes_0 : decode cX12_goes 0 = .ok (.aload_n 0, 1) := by decide +kernel
theorem dX12_goes_1 : decode cX12_goes 1 = .ok (.iconst 0, 1) := by decide +kernel
theorem dX12_goes_2 : decode cX12_goes 2 = .ok (.putfield 94, 3) := by decide +kernel
theorem dX12_goes_5 : decode cX12_goes 5 = .ok (.iload_n 1, 1) := by decide +kernel
theorem dX12_goes_6 : decode cX12_goes 6 = .ok (.iconst 0, 1) := by decide +kernel
theorem dX12_goes_7 : decode cX12_goes 7 = .ok (.iconst 2, 1) := by decide +kernel
theorem dX12_goes_8 : decode cX12_goes 8 = .ok (.invokestatic 101, 3) := by decide +kernel
theorem dX12_goes_11 : decode cX12_goes 11 = .ok (.ifCond .ne 5, 3) := by decide +kernel
theorem dX12_goes_14 : decode cX12_goes 14 = .ok (.iconst (-1), 1) := by decide +kernel
theorem dX12_goes_15 : decode cX12_goes 15 = .ok (.ireturn, 1) := by decide +kernel
theorem dX12_goes_16 : decode cX12_goes 16 = .ok (.aload_n 0, 1) := by decide +kernel
theorem dX12_goes_17 : decode cX12_goes 17 = .ok (.iload_n 1, 1) := by decide +kernel
theorem dX12_goes_18 : decode cX12_goes 18 = .ok (.invokevirtual 342, 3) := by decide +kernel
theorem dX12_goes_21 : decode cX12_goes 21 = .ok (.istore_n 2, 1) := by decide +kernel
theorem dX12_goes_22 : decode cX12_goes 22 = .ok (.iload_n 2, 1) := by decide +kernel
theorem dX12_goes_23 : decode cX12_goes 23 = .ok (.ifCond .ge 5, 3) := by decide +kernel
theorem dX12_goes_26 : decode cX12_goes 26 = .ok (.iload_n 2, 1) := by decide +kernel
theorem dX12_goes_27 : decode cX12_goes 27 = .ok (.ireturn, 1) := by decide +kernel
theorem dX12_goes_28 : decode cX12_goes 28 = .ok (.aload_n 0, 1) := by decide +kernel
theorem dX12_goes_29 : decode cX12_goes 29 = .ok (.aload_n 0, 1) := by decide +kernel
theorem dX12_goes_30 : decode cX12_goes 30 = .ok (.getfield 9, 3) := by decide +kernel
theorem dX12_goes_33 : decode cX12_goes 33 = .ok (.aload_n 0, 1) := by decide +kernel
theorem dX12_goes_34 : decode cX12_goes 34 = .ok (.getfield 69, 3) := by decide +kernel
theorem dX12_goes_37 : decode cX12_goes 37 = .ok (.iload_n 1, 1) := by decide +kernel
theorem dX12_goes_38 : decode cX12_goes 38 = .ok (.iaload, 1) := by decide +kernel
theorem dX12_goes_39 : decode cX12_goes 39 = .ok (.invokevirtual 327, 3) := by decide +kernel
theorem dX12_goes_42 : decode cX12_goes 42 = .ok (.aload_n 0, 1) := by decide +kernel
theorem dX12_goes_43 : decode cX12_goes 43 = .ok (.getfield 72, 3) := by decide +kernel
theorem dX12_goes_46 : decode cX12_goes 46 = .ok (.iload_n 1, 1) := by decide +kernel
theorem dX12_goes_47 : decode cX12_goes 47 = .ok (.iaload, 1) := by decide +kernel
theorem dX12_goes_48 : decode cX12_goes 48 = .ok (.if_icmp .ne 6, 3) := by decide +kernel
theorem dX12_goes_51 : decode cX12_goes 51 = .ok (.bipush (-2), 2) := by decide +kernel
theorem dX12_goes_53 : decode cX12_goes 53 = .ok (.ireturn, 1) := by decide +kernel
theorem dX12_goes_54 : decode cX12_goes 54 = .ok (.aload_n 0, 1) := by decide +kernel
theorem dX12_goes_55 : decode cX12_goes 55 = .ok (.getfield 72, 3) := by decide +kernel
theorem dX12_goes_58 : decode cX12_goes 58 = .ok (.iload_n 1, 1) := by decide +kernel
theorem dX12_goes_59 : decode cX12_goes 59 = .ok (.dup2, 1) := by decide +kernel
theorem dX12_goes_60 : decode cX12_goes 60 = .ok (.iaload, 1) := by decide +kernel
theorem dX12_goes_61 : decode cX12_goes 61 = .ok (.iconst 1, 1) := by decide +kernel
theorem dX12_goes_62 : decode cX12_goes 62 = .ok (.iadd, 1) := by decide +kernel
theorem dX12_goes_63 : decode cX12_goes 63 = .ok (.iastore, 1) := by decide +kernel
theorem dX12_goes_64 : decode cX12_goes 64 = .ok (.aload_n 0, 1) := by decide +kernel
theorem dX12_goes_65 : decode cX12_goes 65 = .ok (.aload_n 0, 1) := by decide +kernel
theorem dX12_goes_66 : decode cX12_goes 66 = .ok (.getfield 72, 3) := by decide +kernel
theorem dX12_goes_69 : decode cX12_goes 69 = .ok (.iload_n 1, 1) := by decide +kernel
theorem dX12_goes_70 : decode cX12_goes 70 = .ok (.iaload, 1) := by decide +kernel
theorem dX12_goes_71 : decode cX12_goes 71 = .ok (.invokevirtual 330, 3) := by decide +kernel
theorem dX12_goes_74 : decode cX12_goes 74 = .ok (.ireturn, 1) := by decide +kernel
theorem dX12_skips_0 : decode cX12_skips 0 = .ok (.aload_n 0, 1) := by decide +kernel
theorem dX12_skips_1 : decode cX12_skips 1 = .ok (.iconst 0, 1) := by decide +kernel
theorem dX12_skips_2 : decode cX12_skips 2 = .ok (.putfield 94, 3) := by decide +kernel
theorem dX12_skips_5 : decode cX12_skips 5 = .ok (.iload_n 1, 1) := by decide +kernel
theorem dX12_skips_6 : decode cX12_skips 6 = .ok (.iconst 0, 1) := by decide +kernel
theorem dX12_skips_7 : decode cX12_skips 7 = .ok (.iconst 2, 1) := by decide +kernel
theorem dX12_skips_8 : decode cX12_skips 8 = .ok (.invokestatic 101, 3) := by decide +kernel
theorem dX12_skips_11 : decode cX12_skips 11 = .ok (.ifCond .eq 14, 3) := by decide +kernel
theorem dX12_skips_14 : decode cX12_skips 14 = .ok (.iload_n 2, 1) := by decide +kernel
theorem dX12_skips_15 : decode cX12_skips 15 = .ok (.iconst 0, 1) := by decide +kernel
theorem dX12_skips_16 : decode cX12_skips 16 = .ok (.sipush 400, 3) := by decide +kernel
theorem dX12_skips_19 : decode cX12_skips 19 = .ok (.invokestatic 101, 3) := by decide +kernel
theorem dX12_skips_22 : decode cX12_skips 22 = .ok (.ifCond .ne 5, 3) := by decide +kernel
theorem dX12_skips_25 : decode cX12_skips 25 = .ok (.iconst (-1), 1) := by decide +kernel
theorem dX12_skips_26 : decode cX12_skips 26 = .ok (.ireturn, 1) := by decide +kernel
theorem dX12_skips_27 : decode cX12_skips 27 = .ok (.aload_n 0, 1) := by decide +kernel
theorem dX12_skips_28 : decode cX12_skips 28 = .ok (.iload_n 1, 1) := by decide +kernel
theorem dX12_skips_29 : decode cX12_skips 29 = .ok (.invokevirtual 342, 3) := by decide +kernel
theorem dX12_skips_32 : decode cX12_skips 32 = .ok (.istore_n 3, 1) := by decide +kernel
theorem dX12_skips_33 : decode cX12_skips 33 = .ok (.iload_n 3, 1) := by decide +kernel
theorem dX12_skips_34 : decode cX12_skips 34 = .ok (.ifCond .ge 5, 3) := by decide +kernel
theorem dX12_skips_37 : decode cX12_skips 37 = .ok (.iload_n 3, 1) := by decide +kernel
theorem dX12_skips_38 : decode cX12_skips 38 = .ok (.ireturn, 1) := by decide +kernel
theorem dX12_skips_39 : decode cX12_skips 39 = .ok (.aload_n 0, 1) := by decide +kernel
theorem dX12_skips_40 : decode cX12_skips 40 = .ok (.aload_n 0, 1) := by decide +kernel
theorem dX12_skips_41 : decode cX12_skips 41 = .ok (.getfield 9, 3) := by decide +kernel
theorem dX12_skips_44 : decode cX12_skips 44 = .ok (.aload_n 0, 1) := by decide +kernel
theorem dX12_skips_45 : decode cX12_skips 45 = .ok (.getfield 69, 3) := by decide +kernel
theorem dX12_skips_48 : decode cX12_skips 48 = .ok (.iload_n 1, 1) := by decide +kernel
theorem dX12_skips_49 : decode cX12_skips 49 = .ok (.iaload, 1) := by decide +kernel
theorem dX12_skips_50 : decode cX12_skips 50 = .ok (.invokevirtual 327, 3) := by decide +kernel
theorem dX12_skips_53 : decode cX12_skips 53 = .ok (.istore 4, 2) := by decide +kernel
theorem dX12_skips_55 : decode cX12_skips 55 = .ok (.aload_n 0, 1) := by decide +kernel
theorem dX12_skips_56 : decode cX12_skips 56 = .ok (.getfield 72, 3) := by decide +kernel
theorem dX12_skips_59 : decode cX12_skips 59 = .ok (.iload_n 1, 1) := by decide +kernel
theorem dX12_skips_60 : decode cX12_skips 60 = .ok (.iload 4, 2) := by decide +kernel
theorem dX12_skips_62 : decode cX12_skips 62 = .ok (.aload_n 0, 1) := by decide +kernel
theorem dX12_skips_63 : decode cX12_skips 63 = .ok (.getfield 72, 3) := by decide +kernel
theorem dX12_skips_66 : decode cX12_skips 66 = .ok (.iload_n 1, 1) := by decide +kernel
theorem dX12_skips_67 : decode cX12_skips 67 = .ok (.iaload, 1) := by decide +kernel
theorem dX12_skips_68 : decode cX12_skips 68 = .ok (.iload_n 2, 1) := by decide +kernel
theorem dX12_skips_69 : decode cX12_skips 69 = .ok (.iadd, 1) := by decide +kernel
theorem dX12_skips_70 : decode cX12_skips 70 = .ok (.invokestatic 210, 3) := by decide +kernel
theorem dX12_skips_73 : decode cX12_skips 73 = .ok (.iastore, 1) := by decide +kernel
theorem dX12_skips_74 : decode cX12_skips 74 = .ok (.iload 4, 2) := by decide +kernel
theorem dX12_skips_76 : decode cX12_skips 76 = .ok (.aload_n 0, 1) := by decide +kernel
theorem dX12_skips_77 : decode cX12_skips 77 = .ok (.getfield 72, 3) := by decide +kernel
theorem dX12_skips_80 : decode cX12_skips 80 = .ok (.iload_n 1, 1) := by decide +kernel
theorem dX12_skips_81 : decode cX12_skips 81 = .ok (.iaload, 1) := by decide +kernel
theorem dX12_skips_82 : decode cX12_skips 82 = .ok (.isub, 1) := by decide +kernel
theorem dX12_skips_83 : decode cX12_skips 83 = .ok (.ireturn, 1) := by decide +kernel
theorem dX12_highOf_0 : decode cX12_highOf 0 = .ok (.iload_n 0, 1) := by decide +kernel
theorem dX12_highOf_1 : decode cX12_highOf 1 = .ok (.ifCond .ne 8, 3) := by decide +kernel
theorem dX12_highOf_4 : decode cX12_highOf 4 = .ok (.bipush 30, 2) := by decide +kernel
theorem dX12_highOf_6 : decode cX12_highOf 6 = .ok (.goto 15, 3) := by decide +kernel
theorem dX12_highOf_9 : decode cX12_highOf 9 = .ok (.iload_n 0, 1) := by decide +kernel
theorem dX12_highOf_10 : decode cX12_highOf 10 = .ok (.iconst 3, 1) := by decide +kernel
theorem dX12_highOf_11 : decode cX12_highOf 11 = .ok (.if_icmp .ne 8, 3) := by decide +kernel
theorem dX12_highOf_14 : decode cX12_highOf 14 = .ok (.bipush 8, 2) := by decide +kernel
theorem dX12_highOf_16 : decode cX12_highOf 16 = .ok (.goto 5, 3) := by decide +kernel
theorem dX12_highOf_19 : decode cX12_highOf 19 = .ok (.bipush 11, 2) := by decide +kernel
theorem dX12_highOf_21 : decode cX12_highOf 21 = .ok (.ireturn, 1) := by decide +kernel
theorem dX12_heard_0 : decode cX12_heard 0 = .ok (.aload_n 0, 1) := by decide +kernel
theorem dX12_heard_1 : decode cX12_heard 1 = .ok (.iconst 0, 1) := by decide +kernel
theorem dX12_heard_2 : decode cX12_heard 2 = .ok (.putfield 94, 3) := by decide +kernel
theorem dX12_heard_5 : decode cX12_heard 5 = .ok (.iload_n 1, 1) := by decide +kernel
theorem dX12_heard_6 : decode cX12_heard 6 = .ok (.iconst 0, 1) := by decide +kernel
theorem dX12_heard_7 : decode cX12_heard 7 = .ok (.iconst 4, 1) := by decide +kernel
theorem dX12_heard_8 : decode cX12_heard 8 = .ok (.invokestatic 101, 3) := by decide +kernel
theorem dX12_heard_11 : decode cX12_heard 11 = .ok (.ifCond .eq 24, 3) := by decide +kernel
theorem dX12_heard_14 : decode cX12_heard 14 = .ok (.iload_n 2, 1) := by decide +kernel
theorem dX12_heard_15 : decode cX12_heard 15 = .ok (.iconst 0, 1) := by decide +kernel
theorem dX12_heard_16 : decode cX12_heard 16 = .ok (.iload_n 1, 1) := by decide +kernel
theorem dX12_heard_17 : decode cX12_heard 17 = .ok (.invokestatic 345, 3) := by decide +kernel
theorem dX12_heard_20 : decode cX12_heard 20 = .ok (.invokestatic 101, 3) := by decide +kernel
theorem dX12_heard_23 : decode cX12_heard 23 = .ok (.ifCond .eq 12, 3) := by decide +kernel
theorem dX12_heard_26 : decode cX12_heard 26 = .ok (.aload_n 0, 1) := by decide +kernel
theorem dX12_heard_27 : decode cX12_heard 27 = .ok (.getfield 348, 3) := by decide +kernel
theorem dX12_heard_30 : decode cX12_heard 30 = .ok (.bipush 10, 2) := by decide +kernel
theorem dX12_heard_32 : decode cX12_heard 32 = .ok (.if_icmp .ne 5, 3) := by decide +kernel
theorem dX12_heard_35 : decode cX12_heard 35 = .ok (.iconst (-1), 1) := by decide +kernel
theorem dX12_heard_36 : decode cX12_heard 36 = .ok (.ireturn, 1) := by decide +kernel
theorem dX12_heard_37 : decode cX12_heard 37 = .ok (.aload_n 0, 1) := by decide +kernel
theorem dX12_heard_38 : decode cX12_heard 38 = .ok (.getfield 78, 3) := by decide +kernel
theorem dX12_heard_41 : decode cX12_heard 41 = .ok (.aload_n 0, 1) := by decide +kernel
theorem dX12_heard_42 : decode cX12_heard 42 = .ok (.getfield 348, 3) := by decide +kernel
theorem dX12_heard_45 : decode cX12_heard 45 = .ok (.iload_n 1, 1) := by decide +kernel
theorem dX12_heard_46 : decode cX12_heard 46 = .ok (.iastore, 1) := by decide +kernel
theorem dX12_heard_47 : decode cX12_heard 47 = .ok (.aload_n 0, 1) := by decide +kernel
theorem dX12_heard_48 : decode cX12_heard 48 = .ok (.getfield 81, 3) := by decide +kernel
theorem dX12_heard_51 : decode cX12_heard 51 = .ok (.aload_n 0, 1) := by decide +kernel
theorem dX12_heard_52 : decode cX12_heard 52 = .ok (.getfield 348, 3) := by decide +kernel
theorem dX12_heard_55 : decode cX12_heard 55 = .ok (.iload_n 2, 1) := by decide +kernel
theorem dX12_heard_56 : decode cX12_heard 56 = .ok (.iastore, 1) := by decide +kernel
theorem dX12_heard_57 : decode cX12_heard 57 = .ok (.aload_n 0, 1) := by decide +kernel
theorem dX12_heard_58 : decode cX12_heard 58 = .ok (.dup, 1) := by decide +kernel
theorem dX12_heard_59 : decode cX12_heard 59 = .ok (.getfield 348, 3) := by decide +kernel
theorem dX12_heard_62 : decode cX12_heard 62 = .ok (.iconst 1, 1) := by decide +kernel
theorem dX12_heard_63 : decode cX12_heard 63 = .ok (.iadd, 1) := by decide +kernel
theorem dX12_heard_64 : decode cX12_heard 64 = .ok (.putfield 348, 3) := by decide +kernel
theorem dX12_heard_67 : decode cX12_heard 67 = .ok (.aload_n 0, 1) := by decide +kernel
theorem dX12_heard_68 : decode cX12_heard 68 = .ok (.getfield 348, 3) := by decide +kernel
theorem dX12_heard_71 : decode cX12_heard 71 = .ok (.ireturn, 1) := by decide +kernel
theorem dX12_forget_0 : decode cX12_forget 0 = .ok (.aload_n 0, 1) := by decide +kernel
theorem dX12_forget_1 : decode cX12_forget 1 = .ok (.iconst 0, 1) := by decide +kernel
