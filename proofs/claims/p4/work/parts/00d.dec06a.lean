theorem dX6_init_0 : decode cX6_init 0 = .ok (.aload_n 0, 1) := by decide +kernel
theorem dX6_init_1 : decode cX6_init 1 = .ok (.invokespecial 1, 3) := by decide +kernel
theorem dX6_init_4 : decode cX6_init 4 = .ok (.aload_n 0, 1) := by decide +kernel
theorem dX6_init_5 : decode cX6_init 5 = .ok (.iconst 0, 1) := by decide +kernel
theorem dX6_init_6 : decode cX6_init 6 = .ok (.iload_n 1, 1) := by decide +kernel
theorem dX6_init_7 : decode cX6_init 7 = .ok (.invokestatic 7, 3) := by decide +kernel
theorem dX6_init_10 : decode cX6_init 10 = .ok (.newarray .long, 2) := by decide +kernel
theorem dX6_init_12 : decode cX6_init 12 = .ok (.putfield 13, 3) := by decide +kernel
theorem dX6_init_15 : decode cX6_init 15 = .ok (.return_, 1) := by decide +kernel
theorem dX6_keyOf_0 : decode cX6_keyOf 0 = .ok (.iload_n 0, 1) := by decide +kernel
theorem dX6_keyOf_1 : decode cX6_keyOf 1 = .ok (.i2l, 1) := by decide +kernel
theorem dX6_keyOf_2 : decode cX6_keyOf 2 = .ok (.bipush 32, 2) := by decide +kernel
theorem dX6_keyOf_4 : decode cX6_keyOf 4 = .ok (.lshl, 1) := by decide +kernel
theorem dX6_keyOf_5 : decode cX6_keyOf 5 = .ok (.lload_n 1, 1) := by decide +kernel
theorem dX6_keyOf_6 : decode cX6_keyOf 6 = .ok (.lor, 1) := by decide +kernel
theorem dX6_keyOf_7 : decode cX6_keyOf 7 = .ok (.lreturn, 1) := by decide +kernel
theorem dX6_costOf_0 : decode cX6_costOf 0 = .ok (.lload_n 0, 1) := by decide +kernel
theorem dX6_costOf_1 : decode cX6_costOf 1 = .ok (.bipush 32, 2) := by decide +kernel
theorem dX6_costOf_3 : decode cX6_costOf 3 = .ok (.lshr, 1) := by decide +kernel
theorem dX6_costOf_4 : decode cX6_costOf 4 = .ok (.l2i, 1) := by decide +kernel
theorem dX6_costOf_5 : decode cX6_costOf 5 = .ok (.ireturn, 1) := by decide +kernel
theorem dX6_isKnown_0 : decode cX6_isKnown 0 = .ok (.aload_n 0, 1) := by decide +kernel
theorem dX6_isKnown_1 : decode cX6_isKnown 1 = .ok (.getfield 19, 3) := by decide +kernel
theorem dX6_isKnown_4 : decode cX6_isKnown 4 = .ok (.ireturn, 1) := by decide +kernel
theorem dX6_outdate_0 : decode cX6_outdate 0 = .ok (.aload_n 0, 1) := by decide +kernel
theorem dX6_outdate_1 : decode cX6_outdate 1 = .ok (.iconst 0, 1) := by decide +kernel
theorem dX6_outdate_2 : decode cX6_outdate 2 = .ok (.putfield 19, 3) := by decide +kernel
theorem dX6_outdate_5 : decode cX6_outdate 5 = .ok (.return_, 1) := by decide +kernel
theorem dX6_clear_0 : decode cX6_clear 0 = .ok (.aload_n 0, 1) := by decide +kernel
theorem dX6_clear_1 : decode cX6_clear 1 = .ok (.iconst 0, 1) := by decide +kernel
theorem dX6_clear_2 : decode cX6_clear 2 = .ok (.putfield 23, 3) := by decide +kernel
theorem dX6_clear_5 : decode cX6_clear 5 = .ok (.return_, 1) := by decide +kernel
theorem dX6_size_0 : decode cX6_size 0 = .ok (.aload_n 0, 1) := by decide +kernel
theorem dX6_size_1 : decode cX6_size 1 = .ok (.getfield 23, 3) := by decide +kernel
theorem dX6_size_4 : decode cX6_size 4 = .ok (.ireturn, 1) := by decide +kernel
theorem dX6_add_0 : decode cX6_add 0 = .ok (.aload_n 0, 1) := by decide +kernel
theorem dX6_add_1 : decode cX6_add 1 = .ok (.getfield 23, 3) := by decide +kernel
theorem dX6_add_4 : decode cX6_add 4 = .ok (.aload_n 0, 1) := by decide +kernel
theorem dX6_add_5 : decode cX6_add 5 = .ok (.getfield 13, 3) := by decide +kernel
theorem dX6_add_8 : decode cX6_add 8 = .ok (.arraylength, 1) := by decide +kernel
theorem dX6_add_9 : decode cX6_add 9 = .ok (.if_icmp .ge 27, 3) := by decide +kernel
theorem dX6_add_12 : decode cX6_add 12 = .ok (.aload_n 0, 1) := by decide +kernel
theorem dX6_add_13 : decode cX6_add 13 = .ok (.getfield 13, 3) := by decide +kernel
theorem dX6_add_16 : decode cX6_add 16 = .ok (.aload_n 0, 1) := by decide +kernel
theorem dX6_add_17 : decode cX6_add 17 = .ok (.getfield 23, 3) := by decide +kernel
theorem dX6_add_20 : decode cX6_add 20 = .ok (.iload_n 1, 1) := by decide +kernel
theorem dX6_add_21 : decode cX6_add 21 = .ok (.lload_n 2, 1) := by decide +kernel
theorem dX6_add_22 : decode cX6_add 22 = .ok (.invokestatic 27, 3) := by decide +kernel
theorem dX6_add_25 : decode cX6_add 25 = .ok (.lastore, 1) := by decide +kernel
theorem dX6_add_26 : decode cX6_add 26 = .ok (.aload_n 0, 1) := by decide +kernel
theorem dX6_add_27 : decode cX6_add 27 = .ok (.dup, 1) := by decide +kernel
theorem dX6_add_28 : decode cX6_add 28 = .ok (.getfield 23, 3) := by decide +kernel
theorem dX6_add_31 : decode cX6_add 31 = .ok (.iconst 1, 1) := by decide +kernel
theorem dX6_add_32 : decode cX6_add 32 = .ok (.iadd, 1) := by decide +kernel
theorem dX6_add_33 : decode cX6_add 33 = .ok (.putfield 23, 3) := by decide +kernel
theorem dX6_add_36 : decode cX6_add 36 = .ok (.return_, 1) := by decide +kernel
theorem dX6_sort_0 : decode cX6_sort 0 = .ok (.iconst 0, 1) := by decide +kernel
theorem dX6_sort_1 : decode cX6_sort 1 = .ok (.istore_n 1, 1) := by decide +kernel
theorem dX6_sort_2 : decode cX6_sort 2 = .ok (.iload_n 1, 1) := by decide +kernel
theorem dX6_sort_3 : decode cX6_sort 3 = .ok (.getstatic 31, 3) := by decide +kernel
theorem dX6_sort_6 : decode cX6_sort 6 = .ok (.arraylength, 1) := by decide +kernel
theorem dX6_sort_7 : decode cX6_sort 7 = .ok (.if_icmp .ge 97, 3) := by decide +kernel
theorem dX6_sort_10 : decode cX6_sort 10 = .ok (.getstatic 31, 3) := by decide +kernel
theorem dX6_sort_13 : decode cX6_sort 13 = .ok (.iload_n 1, 1) := by decide +kernel
theorem dX6_sort_14 : decode cX6_sort 14 = .ok (.iaload, 1) := by decide +kernel
theorem dX6_sort_15 : decode cX6_sort 15 = .ok (.istore_n 2, 1) := by decide +kernel
theorem dX6_sort_16 : decode cX6_sort 16 = .ok (.iload_n 2, 1) := by decide +kernel
theorem dX6_sort_17 : decode cX6_sort 17 = .ok (.istore_n 3, 1) := by decide +kernel
theorem dX6_sort_18 : decode cX6_sort 18 = .ok (.iload_n 3, 1) := by decide +kernel
theorem dX6_sort_19 : decode cX6_sort 19 = .ok (.aload_n 0, 1) := by decide +kernel
theorem dX6_sort_20 : decode cX6_sort 20 = .ok (.getfield 23, 3) := by decide +kernel
theorem dX6_sort_23 : decode cX6_sort 23 = .ok (.if_icmp .ge 75, 3) := by decide +kernel
theorem dX6_sort_26 : decode cX6_sort 26 = .ok (.aload_n 0, 1) := by decide +kernel
theorem dX6_sort_27 : decode cX6_sort 27 = .ok (.getfield 13, 3) := by decide +kernel
theorem dX6_sort_30 : decode cX6_sort 30 = .ok (.iload_n 3, 1) := by decide +kernel
theorem dX6_sort_31 : decode cX6_sort 31 = .ok (.laload, 1) := by decide +kernel
theorem dX6_sort_32 : decode cX6_sort 32 = .ok (.lstore 4, 2) := by decide +kernel
theorem dX6_sort_34 : decode cX6_sort 34 = .ok (.iload_n 3, 1) := by decide +kernel
theorem dX6_sort_35 : decode cX6_sort 35 = .ok (.istore 6, 2) := by decide +kernel
theorem dX6_sort_37 : decode cX6_sort 37 = .ok (.iload 6, 2) := by decide +kernel
theorem dX6_sort_39 : decode cX6_sort 39 = .ok (.iload_n 2, 1) := by decide +kernel
theorem dX6_sort_40 : decode cX6_sort 40 = .ok (.if_icmp .lt 43, 3) := by decide +kernel
theorem dX6_sort_43 : decode cX6_sort 43 = .ok (.aload_n 0, 1) := by decide +kernel
theorem dX6_sort_44 : decode cX6_sort 44 = .ok (.getfield 13, 3) := by decide +kernel
theorem dX6_sort_47 : decode cX6_sort 47 = .ok (.iload 6, 2) := by decide +kernel
theorem dX6_sort_49 : decode cX6_sort 49 = .ok (.iload_n 2, 1) := by decide +kernel
theorem dX6_sort_50 : decode cX6_sort 50 = .ok (.isub, 1) := by decide +kernel
theorem dX6_sort_51 : decode cX6_sort 51 = .ok (.laload, 1) := by decide +kernel
theorem dX6_sort_52 : decode cX6_sort 52 = .ok (.lload 4, 2) := by decide +kernel
theorem dX6_sort_54 : decode cX6_sort 54 = .ok (.lcmp, 1) := by decide +kernel
theorem dX6_sort_55 : decode cX6_sort 55 = .ok (.ifCond .le 28, 3) := by decide +kernel
theorem dX6_sort_58 : decode cX6_sort 58 = .ok (.aload_n 0, 1) := by decide +kernel
theorem dX6_sort_59 : decode cX6_sort 59 = .ok (.getfield 13, 3) := by decide +kernel
theorem dX6_sort_62 : decode cX6_sort 62 = .ok (.iload 6, 2) := by decide +kernel
theorem dX6_sort_64 : decode cX6_sort 64 = .ok (.aload_n 0, 1) := by decide +kernel
theorem dX6_sort_65 : decode cX6_sort 65 = .ok (.getfield 13, 3) := by decide +kernel
theorem dX6_sort_68 : decode cX6_sort 68 = .ok (.iload 6, 2) := by decide +kernel
theorem dX6_sort_70 : decode cX6_sort 70 = .ok (.iload_n 2, 1) := by decide +kernel
theorem dX6_sort_71 : decode cX6_sort 71 = .ok (.isub, 1) := by decide +kernel
theorem dX6_sort_72 : decode cX6_sort 72 = .ok (.laload, 1) := by decide +kernel
theorem dX6_sort_73 : decode cX6_sort 73 = .ok (.lastore, 1) := by decide +kernel
theorem dX6_sort_74 : decode cX6_sort 74 = .ok (.iload 6, 2) := by decide +kernel
theorem dX6_sort_76 : decode cX6_sort 76 = .ok (.iload_n 2, 1) := by decide +kernel
theorem dX6_sort_77 : decode cX6_sort 77 = .ok (.isub, 1) := by decide +kernel
theorem dX6_sort_78 : decode cX6_sort 78 = .ok (.istore 6, 2) := by decide +kernel
theorem dX6_sort_80 : decode cX6_sort 80 = .ok (.goto (-43), 3) := by decide +kernel
theorem dX6_sort_83 : decode cX6_sort 83 = .ok (.aload_n 0, 1) := by decide +kernel
theorem dX6_sort_84 : decode cX6_sort 84 = .ok (.getfield 13, 3) := by decide +kernel
theorem dX6_sort_87 : decode cX6_sort 87 = .ok (.iload 6, 2) := by decide +kernel
theorem dX6_sort_89 : decode cX6_sort 89 = .ok (.lload 4, 2) := by decide +kernel
theorem dX6_sort_91 : decode cX6_sort 91 = .ok (.lastore, 1) := by decide +kernel
theorem dX6_sort_92 : decode cX6_sort 92 = .ok (.iinc 3 1, 3) := by decide +kernel
theorem dX6_sort_95 : decode cX6_sort 95 = .ok (.goto (-77), 3) := by decide +kernel
theorem dX6_sort_98 : decode cX6_sort 98 = .ok (.iinc 1 1, 3) := by decide +kernel
theorem dX6_sort_101 : decode cX6_sort 101 = .ok (.goto (-99), 3) := by decide +kernel
theorem dX6_sort_104 : decode cX6_sort 104 = .ok (.aload_n 0, 1) := by decide +kernel
theorem dX6_sort_105 : decode cX6_sort 105 = .ok (.iconst 1, 1) := by decide +kernel
theorem dX6_sort_106 : decode cX6_sort 106 = .ok (.putfield 19, 3) := by decide +kernel
theorem dX6_sort_109 : decode cX6_sort 109 = .ok (.return_, 1) := by decide +kernel
theorem dX6_costAt_0 : decode cX6_costAt 0 = .ok (.aload_n 0, 1) := by decide +kernel
theorem dX6_costAt_1 : decode cX6_costAt 1 = .ok (.iload_n 1, 1) := by decide +kernel
theorem dX6_costAt_2 : decode cX6_costAt 2 = .ok (.invokevirtual 37, 3) := by decide +kernel
theorem dX6_costAt_5 : decode cX6_costAt 5 = .ok (.invokestatic 41, 3) := by decide +kernel
theorem dX6_costAt_8 : decode cX6_costAt 8 = .ok (.ireturn, 1) := by decide +kernel
theorem dX6_codeAt_0 : decode cX6_codeAt 0 = .ok (.aload_n 0, 1) := by decide +kernel
theorem dX6_codeAt_1 : decode cX6_codeAt 1 = .ok (.iload_n 1, 1) := by decide +kernel
theorem dX6_codeAt_2 : decode cX6_codeAt 2 = .ok (.invokevirtual 37, 3) := by decide +kernel
theorem dX6_codeAt_5 : decode cX6_codeAt 5 = .ok (.ldc2_w 45, 3) := by decide +kernel
theorem dX6_codeAt_8 : decode cX6_codeAt 8 = .ok (.land, 1) := by decide +kernel
theorem dX6_codeAt_9 : decode cX6_codeAt 9 = .ok (.lreturn, 1) := by decide +kernel
theorem dX6_keyAt_0 : decode cX6_keyAt 0 = .ok (.iload_n 1, 1) := by decide +kernel
theorem dX6_keyAt_1 : decode cX6_keyAt 1 = .ok (.iconst 1, 1) := by decide +kernel
theorem dX6_keyAt_2 : decode cX6_keyAt 2 = .ok (.if_icmp .lt 22, 3) := by decide +kernel
theorem dX6_keyAt_5 : decode cX6_keyAt 5 = .ok (.iload_n 1, 1) := by decide +kernel
theorem dX6_keyAt_6 : decode cX6_keyAt 6 = .ok (.aload_n 0, 1) := by decide +kernel
theorem dX6_keyAt_7 : decode cX6_keyAt 7 = .ok (.getfield 23, 3) := by decide +kernel
theorem dX6_keyAt_10 : decode cX6_keyAt 10 = .ok (.if_icmp .gt 14, 3) := by decide +kernel
theorem dX6_keyAt_13 : decode cX6_keyAt 13 = .ok (.aload_n 0, 1) := by decide +kernel
theorem dX6_keyAt_14 : decode cX6_keyAt 14 = .ok (.getfield 13, 3) := by decide +kernel
theorem dX6_keyAt_17 : decode cX6_keyAt 17 = .ok (.iload_n 1, 1) := by decide +kernel
theorem dX6_keyAt_18 : decode cX6_keyAt 18 = .ok (.iconst 1, 1) := by decide +kernel
theorem dX6_keyAt_19 : decode cX6_keyAt 19 = .ok (.isub, 1) := by decide +kernel
theorem dX6_keyAt_20 : decode cX6_keyAt 20 = .ok (.laload, 1) := by decide +kernel
theorem dX6_keyAt_21 : decode cX6_keyAt 21 = .ok (.goto 4, 3) := by decide +kernel
theorem dX6_keyAt_24 : decode cX6_keyAt 24 = .ok (.lconst 0, 1) := by decide +kernel
theorem dX6_keyAt_25 : decode cX6_keyAt 25 = .ok (.lreturn, 1) := by decide +kernel
theorem dX6_upTo_0 : decode cX6_upTo 0 = .ok (.iconst 0, 1) := by decide +kernel
theorem dX6_upTo_1 : decode cX6_upTo 1 = .ok (.istore_n 2, 1) := by decide +kernel
theorem dX6_upTo_2 : decode cX6_upTo 2 = .ok (.iload_n 2, 1) := by decide +kernel
theorem dX6_upTo_3 : decode cX6_upTo 3 = .ok (.aload_n 0, 1) := by decide +kernel
theorem dX6_upTo_4 : decode cX6_upTo 4 = .ok (.getfield 23, 3) := by decide +kernel
theorem dX6_upTo_7 : decode cX6_upTo 7 = .ok (.if_icmp .ge 22, 3) := by decide +kernel
theorem dX6_upTo_10 : decode cX6_upTo 10 = .ok (.aload_n 0, 1) := by decide +kernel
theorem dX6_upTo_11 : decode cX6_upTo 11 = .ok (.getfield 13, 3) := by decide +kernel
theorem dX6_upTo_14 : decode cX6_upTo 14 = .ok (.iload_n 2, 1) := by decide +kernel
theorem dX6_upTo_15 : decode cX6_upTo 15 = .ok (.laload, 1) := by decide +kernel
theorem dX6_upTo_16 : decode cX6_upTo 16 = .ok (.invokestatic 41, 3) := by decide +kernel
theorem dX6_upTo_19 : decode cX6_upTo 19 = .ok (.iload_n 1, 1) := by decide +kernel
theorem dX6_upTo_20 : decode cX6_upTo 20 = .ok (.if_icmp .gt 9, 3) := by decide +kernel
theorem dX6_upTo_23 : decode cX6_upTo 23 = .ok (.iinc 2 1, 3) := by decide +kernel
theorem dX6_upTo_26 : decode cX6_upTo 26 = .ok (.goto (-24), 3) := by decide +kernel
theorem dX6_upTo_29 : decode cX6_upTo 29 = .ok (.iload_n 2, 1) := by decide +kernel
theorem dX6_upTo_30 : decode cX6_upTo 30 = .ok (.ireturn, 1) := by decide +kernel
theorem dX6_firstAlike_0 : decode cX6_firstAlike 0 = .ok (.iload_n 1, 1) := by decide +kernel
theorem dX6_firstAlike_1 : decode cX6_firstAlike 1 = .ok (.istore_n 2, 1) := by decide +kernel
theorem dX6_firstAlike_2 : decode cX6_firstAlike 2 = .ok (.iload_n 2, 1) := by decide +kernel
theorem dX6_firstAlike_3 : decode cX6_firstAlike 3 = .ok (.iconst 1, 1) := by decide +kernel
theorem dX6_firstAlike_4 : decode cX6_firstAlike 4 = .ok (.if_icmp .le 24, 3) := by decide +kernel
theorem dX6_firstAlike_7 : decode cX6_firstAlike 7 = .ok (.aload_n 0, 1) := by decide +kernel
theorem dX6_firstAlike_8 : decode cX6_firstAlike 8 = .ok (.iload_n 2, 1) := by decide +kernel
theorem dX6_firstAlike_9 : decode cX6_firstAlike 9 = .ok (.iconst 1, 1) := by decide +kernel
theorem dX6_firstAlike_10 : decode cX6_firstAlike 10 = .ok (.isub, 1) := by decide +kernel
theorem dX6_firstAlike_11 : decode cX6_firstAlike 11 = .ok (.invokevirtual 47, 3) := by decide +kernel
theorem dX6_firstAlike_14 : decode cX6_firstAlike 14 = .ok (.aload_n 0, 1) := by decide +kernel
theorem dX6_firstAlike_15 : decode cX6_firstAlike 15 = .ok (.iload_n 1, 1) := by decide +kernel
theorem dX6_firstAlike_16 : decode cX6_firstAlike 16 = .ok (.invokevirtual 47, 3) := by decide +kernel
theorem dX6_firstAlike_19 : decode cX6_firstAlike 19 = .ok (.if_icmp .ne 9, 3) := by decide +kernel
theorem dX6_firstAlike_22 : decode cX6_firstAlike 22 = .ok (.iinc 2 (-1), 3) := by decide +kernel
theorem dX6_firstAlike_25 : decode cX6_firstAlike 25 = .ok (.goto (-23), 3) := by decide +kernel
theorem dX6_firstAlike_28 : decode cX6_firstAlike 28 = .ok (.iload_n 2, 1) := by decide +kernel
theorem dX6_firstAlike_29 : decode cX6_firstAlike 29 = .ok (.ireturn, 1) := by decide +kernel
theorem dX6_placeOf_0 : decode cX6_placeOf 0 = .ok (.iconst 1, 1) := by decide +kernel
theorem dX6_placeOf_1 : decode cX6_placeOf 1 = .ok (.istore_n 3, 1) := by decide +kernel
theorem dX6_placeOf_2 : decode cX6_placeOf 2 = .ok (.iload_n 3, 1) := by decide +kernel
theorem dX6_placeOf_3 : decode cX6_placeOf 3 = .ok (.aload_n 0, 1) := by decide +kernel
theorem dX6_placeOf_4 : decode cX6_placeOf 4 = .ok (.getfield 23, 3) := by decide +kernel
theorem dX6_placeOf_7 : decode cX6_placeOf 7 = .ok (.if_icmp .gt 21, 3) := by decide +kernel
theorem dX6_placeOf_10 : decode cX6_placeOf 10 = .ok (.aload_n 0, 1) := by decide +kernel
theorem dX6_placeOf_11 : decode cX6_placeOf 11 = .ok (.iload_n 3, 1) := by decide +kernel
theorem dX6_placeOf_12 : decode cX6_placeOf 12 = .ok (.invokevirtual 51, 3) := by decide +kernel
theorem dX6_placeOf_15 : decode cX6_placeOf 15 = .ok (.lload_n 1, 1) := by decide +kernel
theorem dX6_placeOf_16 : decode cX6_placeOf 16 = .ok (.lcmp, 1) := by decide +kernel
theorem dX6_placeOf_17 : decode cX6_placeOf 17 = .ok (.ifCond .ne 5, 3) := by decide +kernel
theorem dX6_placeOf_20 : decode cX6_placeOf 20 = .ok (.iload_n 3, 1) := by decide +kernel
theorem dX6_placeOf_21 : decode cX6_placeOf 21 = .ok (.ireturn, 1) := by decide +kernel
theorem dX6_placeOf_22 : decode cX6_placeOf 22 = .ok (.iinc 3 1, 3) := by decide +kernel
theorem dX6_placeOf_25 : decode cX6_placeOf 25 = .ok (.goto (-23), 3) := by decide +kernel
theorem dX6_placeOf_28 : decode cX6_placeOf 28 = .ok (.iconst 0, 1) := by decide +kernel
theorem dX6_placeOf_29 : decode cX6_placeOf 29 = .ok (.ireturn, 1) := by decide +kernel
theorem dX6_sharedPlaces_0 : decode cX6_sharedPlaces 0 = .ok (.aload_n 0, 1) := by decide +kernel
theorem dX6_sharedPlaces_1 : decode cX6_sharedPlaces 1 = .ok (.iconst 1, 1) := by decide +kernel
theorem dX6_sharedPlaces_2 : decode cX6_sharedPlaces 2 = .ok (.invokevirtual 51, 3) := by decide +kernel
theorem dX6_sharedPlaces_5 : decode cX6_sharedPlaces 5 = .ok (.lstore_n 2, 1) := by decide +kernel
theorem dX6_sharedPlaces_6 : decode cX6_sharedPlaces 6 = .ok (.iconst 1, 1) := by decide +kernel
theorem dX6_sharedPlaces_7 : decode cX6_sharedPlaces 7 = .ok (.lload_n 2, 1) := by decide +kernel
theorem dX6_sharedPlaces_8 : decode cX6_sharedPlaces 8 = .ok (.invokestatic 54, 3) := by decide +kernel
theorem dX6_sharedPlaces_11 : decode cX6_sharedPlaces 11 = .ok (.ishl, 1) := by decide +kernel
theorem dX6_sharedPlaces_12 : decode cX6_sharedPlaces 12 = .ok (.iconst 1, 1) := by decide +kernel
theorem dX6_sharedPlaces_13 : decode cX6_sharedPlaces 13 = .ok (.isub, 1) := by decide +kernel
theorem dX6_sharedPlaces_14 : decode cX6_sharedPlaces 14 = .ok (.istore 4, 2) := by decide +kernel
theorem dX6_sharedPlaces_16 : decode cX6_sharedPlaces 16 = .ok (.iconst 2, 1) := by decide +kernel
theorem dX6_sharedPlaces_17 : decode cX6_sharedPlaces 17 = .ok (.istore 5, 2) := by decide +kernel
theorem dX6_sharedPlaces_19 : decode cX6_sharedPlaces 19 = .ok (.iload 5, 2) := by decide +kernel
theorem dX6_sharedPlaces_21 : decode cX6_sharedPlaces 21 = .ok (.iload_n 1, 1) := by decide +kernel
theorem dX6_sharedPlaces_22 : decode cX6_sharedPlaces 22 = .ok (.if_icmp .gt 26, 3) := by decide +kernel
theorem dX6_sharedPlaces_25 : decode cX6_sharedPlaces 25 = .ok (.iload 4, 2) := by decide +kernel
theorem dX6_sharedPlaces_27 : decode cX6_sharedPlaces 27 = .ok (.lload_n 2, 1) := by decide +kernel
theorem dX6_sharedPlaces_28 : decode cX6_sharedPlaces 28 = .ok (.aload_n 0, 1) := by decide +kernel
theorem dX6_sharedPlaces_29 : decode cX6_sharedPlaces 29 = .ok (.iload 5, 2) := by decide +kernel
theorem dX6_sharedPlaces_31 : decode cX6_sharedPlaces 31 = .ok (.invokevirtual 51, 3) := by decide +kernel
theorem dX6_sharedPlaces_34 : decode cX6_sharedPlaces 34 = .ok (.invokestatic 59, 3) := by decide +kernel
theorem dX6_sharedPlaces_37 : decode cX6_sharedPlaces 37 = .ok (.iconst (-1), 1) := by decide +kernel
theorem dX6_sharedPlaces_38 : decode cX6_sharedPlaces 38 = .ok (.ixor, 1) := by decide +kernel
theorem dX6_sharedPlaces_39 : decode cX6_sharedPlaces 39 = .ok (.iand, 1) := by decide +kernel
theorem dX6_sharedPlaces_40 : decode cX6_sharedPlaces 40 = .ok (.istore 4, 2) := by decide +kernel
theorem dX6_sharedPlaces_42 : decode cX6_sharedPlaces 42 = .ok (.iinc 5 1, 3) := by decide +kernel
theorem dX6_sharedPlaces_45 : decode cX6_sharedPlaces 45 = .ok (.goto (-26), 3) := by decide +kernel
theorem dX6_sharedPlaces_48 : decode cX6_sharedPlaces 48 = .ok (.iload 4, 2) := by decide +kernel
theorem dX6_sharedPlaces_50 : decode cX6_sharedPlaces 50 = .ok (.ireturn, 1) := by decide +kernel
