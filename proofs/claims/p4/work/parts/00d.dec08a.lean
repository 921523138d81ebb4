theorem dX8_init_0 : decode cX8_init 0 = .ok (.aload_n 0, 1) := by decide +kernel
theorem dX8_init_1 : decode cX8_init 1 = .ok (.invokespecial 3, 3) := by decide +kernel
theorem dX8_init_4 : decode cX8_init 4 = .ok (.aload_n 0, 1) := by decide +kernel
theorem dX8_init_5 : decode cX8_init 5 = .ok (.iconst 4, 1) := by decide +kernel
theorem dX8_init_6 : decode cX8_init 6 = .ok (.newarray .int, 2) := by decide +kernel
theorem dX8_init_8 : decode cX8_init 8 = .ok (.putfield 9, 3) := by decide +kernel
theorem dX8_init_11 : decode cX8_init 11 = .ok (.aload_n 0, 1) := by decide +kernel
theorem dX8_init_12 : decode cX8_init 12 = .ok (.bipush 24, 2) := by decide +kernel
theorem dX8_init_14 : decode cX8_init 14 = .ok (.newarray .int, 2) := by decide +kernel
theorem dX8_init_16 : decode cX8_init 16 = .ok (.putfield 15, 3) := by decide +kernel
theorem dX8_init_19 : decode cX8_init 19 = .ok (.aload_n 0, 1) := by decide +kernel
theorem dX8_init_20 : decode cX8_init 20 = .ok (.bipush 49, 2) := by decide +kernel
theorem dX8_init_22 : decode cX8_init 22 = .ok (.newarray .int, 2) := by decide +kernel
theorem dX8_init_24 : decode cX8_init 24 = .ok (.putfield 18, 3) := by decide +kernel
theorem dX8_init_27 : decode cX8_init 27 = .ok (.aload_n 0, 1) := by decide +kernel
theorem dX8_init_28 : decode cX8_init 28 = .ok (.bipush 25, 2) := by decide +kernel
theorem dX8_init_30 : decode cX8_init 30 = .ok (.newarray .int, 2) := by decide +kernel
theorem dX8_init_32 : decode cX8_init 32 = .ok (.putfield 21, 3) := by decide +kernel
theorem dX8_init_35 : decode cX8_init 35 = .ok (.aload_n 0, 1) := by decide +kernel
theorem dX8_init_36 : decode cX8_init 36 = .ok (.iconst 1, 1) := by decide +kernel
theorem dX8_init_37 : decode cX8_init 37 = .ok (.putfield 24, 3) := by decide +kernel
theorem dX8_init_40 : decode cX8_init 40 = .ok (.return_, 1) := by decide +kernel
theorem dX8_copyFrom_0 : decode cX8_copyFrom 0 = .ok (.aload_n 1, 1) := by decide +kernel
theorem dX8_copyFrom_1 : decode cX8_copyFrom 1 = .ok (.getfield 9, 3) := by decide +kernel
theorem dX8_copyFrom_4 : decode cX8_copyFrom 4 = .ok (.iconst 0, 1) := by decide +kernel
theorem dX8_copyFrom_5 : decode cX8_copyFrom 5 = .ok (.aload_n 0, 1) := by decide +kernel
theorem dX8_copyFrom_6 : decode cX8_copyFrom 6 = .ok (.getfield 9, 3) := by decide +kernel
theorem dX8_copyFrom_9 : decode cX8_copyFrom 9 = .ok (.iconst 0, 1) := by decide +kernel
theorem dX8_copyFrom_10 : decode cX8_copyFrom 10 = .ok (.iconst 4, 1) := by decide +kernel
theorem dX8_copyFrom_11 : decode cX8_copyFrom 11 = .ok (.invokestatic 28, 3) := by decide +kernel
theorem dX8_copyFrom_14 : decode cX8_copyFrom 14 = .ok (.aload_n 1, 1) := by decide +kernel
theorem dX8_copyFrom_15 : decode cX8_copyFrom 15 = .ok (.getfield 15, 3) := by decide +kernel
theorem dX8_copyFrom_18 : decode cX8_copyFrom 18 = .ok (.iconst 0, 1) := by decide +kernel
theorem dX8_copyFrom_19 : decode cX8_copyFrom 19 = .ok (.aload_n 0, 1) := by decide +kernel
theorem dX8_copyFrom_20 : decode cX8_copyFrom 20 = .ok (.getfield 15, 3) := by decide +kernel
theorem dX8_copyFrom_23 : decode cX8_copyFrom 23 = .ok (.iconst 0, 1) := by decide +kernel
theorem dX8_copyFrom_24 : decode cX8_copyFrom 24 = .ok (.bipush 24, 2) := by decide +kernel
theorem dX8_copyFrom_26 : decode cX8_copyFrom 26 = .ok (.invokestatic 28, 3) := by decide +kernel
theorem dX8_copyFrom_29 : decode cX8_copyFrom 29 = .ok (.aload_n 1, 1) := by decide +kernel
theorem dX8_copyFrom_30 : decode cX8_copyFrom 30 = .ok (.getfield 18, 3) := by decide +kernel
theorem dX8_copyFrom_33 : decode cX8_copyFrom 33 = .ok (.iconst 0, 1) := by decide +kernel
theorem dX8_copyFrom_34 : decode cX8_copyFrom 34 = .ok (.aload_n 0, 1) := by decide +kernel
theorem dX8_copyFrom_35 : decode cX8_copyFrom 35 = .ok (.getfield 18, 3) := by decide +kernel
theorem dX8_copyFrom_38 : decode cX8_copyFrom 38 = .ok (.iconst 0, 1) := by decide +kernel
theorem dX8_copyFrom_39 : decode cX8_copyFrom 39 = .ok (.bipush 49, 2) := by decide +kernel
theorem dX8_copyFrom_41 : decode cX8_copyFrom 41 = .ok (.invokestatic 28, 3) := by decide +kernel
theorem dX8_copyFrom_44 : decode cX8_copyFrom 44 = .ok (.aload_n 1, 1) := by decide +kernel
theorem dX8_copyFrom_45 : decode cX8_copyFrom 45 = .ok (.getfield 21, 3) := by decide +kernel
theorem dX8_copyFrom_48 : decode cX8_copyFrom 48 = .ok (.iconst 0, 1) := by decide +kernel
theorem dX8_copyFrom_49 : decode cX8_copyFrom 49 = .ok (.aload_n 0, 1) := by decide +kernel
theorem dX8_copyFrom_50 : decode cX8_copyFrom 50 = .ok (.getfield 21, 3) := by decide +kernel
theorem dX8_copyFrom_53 : decode cX8_copyFrom 53 = .ok (.iconst 0, 1) := by decide +kernel
theorem dX8_copyFrom_54 : decode cX8_copyFrom 54 = .ok (.bipush 25, 2) := by decide +kernel
theorem dX8_copyFrom_56 : decode cX8_copyFrom 56 = .ok (.invokestatic 28, 3) := by decide +kernel
theorem dX8_copyFrom_59 : decode cX8_copyFrom 59 = .ok (.aload_n 0, 1) := by decide +kernel
theorem dX8_copyFrom_60 : decode cX8_copyFrom 60 = .ok (.aload_n 1, 1) := by decide +kernel
theorem dX8_copyFrom_61 : decode cX8_copyFrom 61 = .ok (.getfield 34, 3) := by decide +kernel
theorem dX8_copyFrom_64 : decode cX8_copyFrom 64 = .ok (.putfield 34, 3) := by decide +kernel
theorem dX8_copyFrom_67 : decode cX8_copyFrom 67 = .ok (.aload_n 0, 1) := by decide +kernel
theorem dX8_copyFrom_68 : decode cX8_copyFrom 68 = .ok (.aload_n 1, 1) := by decide +kernel
theorem dX8_copyFrom_69 : decode cX8_copyFrom 69 = .ok (.getfield 37, 3) := by decide +kernel
theorem dX8_copyFrom_72 : decode cX8_copyFrom 72 = .ok (.putfield 37, 3) := by decide +kernel
theorem dX8_copyFrom_75 : decode cX8_copyFrom 75 = .ok (.aload_n 0, 1) := by decide +kernel
theorem dX8_copyFrom_76 : decode cX8_copyFrom 76 = .ok (.aload_n 1, 1) := by decide +kernel
theorem dX8_copyFrom_77 : decode cX8_copyFrom 77 = .ok (.getfield 40, 3) := by decide +kernel
theorem dX8_copyFrom_80 : decode cX8_copyFrom 80 = .ok (.putfield 40, 3) := by decide +kernel
theorem dX8_copyFrom_83 : decode cX8_copyFrom 83 = .ok (.aload_n 0, 1) := by decide +kernel
theorem dX8_copyFrom_84 : decode cX8_copyFrom 84 = .ok (.aload_n 1, 1) := by decide +kernel
theorem dX8_copyFrom_85 : decode cX8_copyFrom 85 = .ok (.getfield 24, 3) := by decide +kernel
theorem dX8_copyFrom_88 : decode cX8_copyFrom 88 = .ok (.putfield 24, 3) := by decide +kernel
theorem dX8_copyFrom_91 : decode cX8_copyFrom 91 = .ok (.return_, 1) := by decide +kernel
theorem dX8_size_0 : decode cX8_size 0 = .ok (.aload_n 0, 1) := by decide +kernel
theorem dX8_size_1 : decode cX8_size 1 = .ok (.getfield 34, 3) := by decide +kernel
theorem dX8_size_4 : decode cX8_size 4 = .ok (.ireturn, 1) := by decide +kernel
theorem dX8_picked_0 : decode cX8_picked 0 = .ok (.aload_n 0, 1) := by decide +kernel
theorem dX8_picked_1 : decode cX8_picked 1 = .ok (.getfield 37, 3) := by decide +kernel
theorem dX8_picked_4 : decode cX8_picked 4 = .ok (.ireturn, 1) := by decide +kernel
theorem dX8_firstEnd_0 : decode cX8_firstEnd 0 = .ok (.aload_n 0, 1) := by decide +kernel
theorem dX8_firstEnd_1 : decode cX8_firstEnd 1 = .ok (.getfield 40, 3) := by decide +kernel
theorem dX8_firstEnd_4 : decode cX8_firstEnd 4 = .ok (.ireturn, 1) := by decide +kernel
theorem dX8_secondEnd_0 : decode cX8_secondEnd 0 = .ok (.aload_n 0, 1) := by decide +kernel
theorem dX8_secondEnd_1 : decode cX8_secondEnd 1 = .ok (.getfield 24, 3) := by decide +kernel
theorem dX8_secondEnd_4 : decode cX8_secondEnd 4 = .ok (.ireturn, 1) := by decide +kernel
theorem dX8_endsAsNumber_0 : decode cX8_endsAsNumber 0 = .ok (.bipush 10, 2) := by decide +kernel
theorem dX8_endsAsNumber_2 : decode cX8_endsAsNumber 2 = .ok (.aload_n 0, 1) := by decide +kernel
theorem dX8_endsAsNumber_3 : decode cX8_endsAsNumber 3 = .ok (.getfield 40, 3) := by decide +kernel
theorem dX8_endsAsNumber_6 : decode cX8_endsAsNumber 6 = .ok (.imul, 1) := by decide +kernel
theorem dX8_endsAsNumber_7 : decode cX8_endsAsNumber 7 = .ok (.aload_n 0, 1) := by decide +kernel
theorem dX8_endsAsNumber_8 : decode cX8_endsAsNumber 8 = .ok (.getfield 24, 3) := by decide +kernel
theorem dX8_endsAsNumber_11 : decode cX8_endsAsNumber 11 = .ok (.iadd, 1) := by decide +kernel
theorem dX8_endsAsNumber_12 : decode cX8_endsAsNumber 12 = .ok (.ireturn, 1) := by decide +kernel
theorem dX8_sizeOf_0 : decode cX8_sizeOf 0 = .ok (.iload_n 1, 1) := by decide +kernel
theorem dX8_sizeOf_1 : decode cX8_sizeOf 1 = .ok (.iconst 4, 1) := by decide +kernel
theorem dX8_sizeOf_2 : decode cX8_sizeOf 2 = .ok (.invokestatic 43, 3) := by decide +kernel
theorem dX8_sizeOf_5 : decode cX8_sizeOf 5 = .ok (.ifCond .eq 12, 3) := by decide +kernel
theorem dX8_sizeOf_8 : decode cX8_sizeOf 8 = .ok (.aload_n 0, 1) := by decide +kernel
theorem dX8_sizeOf_9 : decode cX8_sizeOf 9 = .ok (.getfield 9, 3) := by decide +kernel
theorem dX8_sizeOf_12 : decode cX8_sizeOf 12 = .ok (.iload_n 1, 1) := by decide +kernel
theorem dX8_sizeOf_13 : decode cX8_sizeOf 13 = .ok (.iaload, 1) := by decide +kernel
theorem dX8_sizeOf_14 : decode cX8_sizeOf 14 = .ok (.goto 4, 3) := by decide +kernel
theorem dX8_sizeOf_17 : decode cX8_sizeOf 17 = .ok (.iconst 0, 1) := by decide +kernel
theorem dX8_sizeOf_18 : decode cX8_sizeOf 18 = .ok (.ireturn, 1) := by decide +kernel
theorem dX8_allNumbers_0 : decode cX8_allNumbers 0 = .ok (.iconst 0, 1) := by decide +kernel
theorem dX8_allNumbers_1 : decode cX8_allNumbers 1 = .ok (.istore_n 1, 1) := by decide +kernel
theorem dX8_allNumbers_2 : decode cX8_allNumbers 2 = .ok (.iconst 0, 1) := by decide +kernel
theorem dX8_allNumbers_3 : decode cX8_allNumbers 3 = .ok (.istore_n 2, 1) := by decide +kernel
theorem dX8_allNumbers_4 : decode cX8_allNumbers 4 = .ok (.iload_n 2, 1) := by decide +kernel
theorem dX8_allNumbers_5 : decode cX8_allNumbers 5 = .ok (.iconst 4, 1) := by decide +kernel
theorem dX8_allNumbers_6 : decode cX8_allNumbers 6 = .ok (.if_icmp .ge 18, 3) := by decide +kernel
theorem dX8_allNumbers_9 : decode cX8_allNumbers 9 = .ok (.iload_n 1, 1) := by decide +kernel
theorem dX8_allNumbers_10 : decode cX8_allNumbers 10 = .ok (.aload_n 0, 1) := by decide +kernel
theorem dX8_allNumbers_11 : decode cX8_allNumbers 11 = .ok (.getfield 9, 3) := by decide +kernel
theorem dX8_allNumbers_14 : decode cX8_allNumbers 14 = .ok (.iload_n 2, 1) := by decide +kernel
theorem dX8_allNumbers_15 : decode cX8_allNumbers 15 = .ok (.iaload, 1) := by decide +kernel
theorem dX8_allNumbers_16 : decode cX8_allNumbers 16 = .ok (.iadd, 1) := by decide +kernel
theorem dX8_allNumbers_17 : decode cX8_allNumbers 17 = .ok (.istore_n 1, 1) := by decide +kernel
theorem dX8_allNumbers_18 : decode cX8_allNumbers 18 = .ok (.iinc 2 1, 3) := by decide +kernel
theorem dX8_allNumbers_21 : decode cX8_allNumbers 21 = .ok (.goto (-17), 3) := by decide +kernel
theorem dX8_allNumbers_24 : decode cX8_allNumbers 24 = .ok (.iload_n 1, 1) := by decide +kernel
theorem dX8_allNumbers_25 : decode cX8_allNumbers 25 = .ok (.ireturn, 1) := by decide +kernel
theorem dX8_numberAt_0 : decode cX8_numberAt 0 = .ok (.iload_n 2, 1) := by decide +kernel
theorem dX8_numberAt_1 : decode cX8_numberAt 1 = .ok (.aload_n 0, 1) := by decide +kernel
theorem dX8_numberAt_2 : decode cX8_numberAt 2 = .ok (.iload_n 1, 1) := by decide +kernel
theorem dX8_numberAt_3 : decode cX8_numberAt 3 = .ok (.invokevirtual 47, 3) := by decide +kernel
theorem dX8_numberAt_6 : decode cX8_numberAt 6 = .ok (.invokestatic 43, 3) := by decide +kernel
theorem dX8_numberAt_9 : decode cX8_numberAt 9 = .ok (.ifCond .eq 17, 3) := by decide +kernel
theorem dX8_numberAt_12 : decode cX8_numberAt 12 = .ok (.aload_n 0, 1) := by decide +kernel
theorem dX8_numberAt_13 : decode cX8_numberAt 13 = .ok (.getfield 15, 3) := by decide +kernel
theorem dX8_numberAt_16 : decode cX8_numberAt 16 = .ok (.iload_n 1, 1) := by decide +kernel
theorem dX8_numberAt_17 : decode cX8_numberAt 17 = .ok (.bipush 6, 2) := by decide +kernel
theorem dX8_numberAt_19 : decode cX8_numberAt 19 = .ok (.imul, 1) := by decide +kernel
theorem dX8_numberAt_20 : decode cX8_numberAt 20 = .ok (.iload_n 2, 1) := by decide +kernel
theorem dX8_numberAt_21 : decode cX8_numberAt 21 = .ok (.iadd, 1) := by decide +kernel
theorem dX8_numberAt_22 : decode cX8_numberAt 22 = .ok (.iaload, 1) := by decide +kernel
theorem dX8_numberAt_23 : decode cX8_numberAt 23 = .ok (.goto 4, 3) := by decide +kernel
theorem dX8_numberAt_26 : decode cX8_numberAt 26 = .ok (.iconst (-1), 1) := by decide +kernel
theorem dX8_numberAt_27 : decode cX8_numberAt 27 = .ok (.ireturn, 1) := by decide +kernel
theorem dX8_setList_0 : decode cX8_setList 0 = .ok (.iload_n 1, 1) := by decide +kernel
theorem dX8_setList_1 : decode cX8_setList 1 = .ok (.iconst 4, 1) := by decide +kernel
theorem dX8_setList_2 : decode cX8_setList 2 = .ok (.invokestatic 43, 3) := by decide +kernel
theorem dX8_setList_5 : decode cX8_setList 5 = .ok (.ifCond .eq 9, 3) := by decide +kernel
theorem dX8_setList_8 : decode cX8_setList 8 = .ok (.iload_n 3, 1) := by decide +kernel
theorem dX8_setList_9 : decode cX8_setList 9 = .ok (.aload_n 2, 1) := by decide +kernel
theorem dX8_setList_10 : decode cX8_setList 10 = .ok (.arraylength, 1) := by decide +kernel
theorem dX8_setList_11 : decode cX8_setList 11 = .ok (.if_icmp .le 5, 3) := by decide +kernel
theorem dX8_setList_14 : decode cX8_setList 14 = .ok (.iconst (-1), 1) := by decide +kernel
theorem dX8_setList_15 : decode cX8_setList 15 = .ok (.ireturn, 1) := by decide +kernel
theorem dX8_setList_16 : decode cX8_setList 16 = .ok (.aload_n 0, 1) := by decide +kernel
theorem dX8_setList_17 : decode cX8_setList 17 = .ok (.getfield 9, 3) := by decide +kernel
theorem dX8_setList_20 : decode cX8_setList 20 = .ok (.iload_n 1, 1) := by decide +kernel
theorem dX8_setList_21 : decode cX8_setList 21 = .ok (.iconst 0, 1) := by decide +kernel
theorem dX8_setList_22 : decode cX8_setList 22 = .ok (.iastore, 1) := by decide +kernel
theorem dX8_setList_23 : decode cX8_setList 23 = .ok (.iconst 0, 1) := by decide +kernel
theorem dX8_setList_24 : decode cX8_setList 24 = .ok (.istore 4, 2) := by decide +kernel
theorem dX8_setList_26 : decode cX8_setList 26 = .ok (.iload 4, 2) := by decide +kernel
theorem dX8_setList_28 : decode cX8_setList 28 = .ok (.iload_n 3, 1) := by decide +kernel
theorem dX8_setList_29 : decode cX8_setList 29 = .ok (.if_icmp .ge 19, 3) := by decide +kernel
theorem dX8_setList_32 : decode cX8_setList 32 = .ok (.aload_n 0, 1) := by decide +kernel
theorem dX8_setList_33 : decode cX8_setList 33 = .ok (.iload_n 1, 1) := by decide +kernel
theorem dX8_setList_34 : decode cX8_setList 34 = .ok (.aload_n 2, 1) := by decide +kernel
theorem dX8_setList_35 : decode cX8_setList 35 = .ok (.iload 4, 2) := by decide +kernel
theorem dX8_setList_37 : decode cX8_setList 37 = .ok (.iaload, 1) := by decide +kernel
theorem dX8_setList_38 : decode cX8_setList 38 = .ok (.invokevirtual 51, 3) := by decide +kernel
theorem dX8_setList_41 : decode cX8_setList 41 = .ok (.pop, 1) := by decide +kernel
theorem dX8_setList_42 : decode cX8_setList 42 = .ok (.iinc 4 1, 3) := by decide +kernel
theorem dX8_setList_45 : decode cX8_setList 45 = .ok (.goto (-19), 3) := by decide +kernel
theorem dX8_setList_48 : decode cX8_setList 48 = .ok (.iload_n 3, 1) := by decide +kernel
theorem dX8_setList_49 : decode cX8_setList 49 = .ok (.ireturn, 1) := by decide +kernel
theorem dX8_putNumber_0 : decode cX8_putNumber 0 = .ok (.iload_n 1, 1) := by decide +kernel
theorem dX8_putNumber_1 : decode cX8_putNumber 1 = .ok (.iconst 4, 1) := by decide +kernel
theorem dX8_putNumber_2 : decode cX8_putNumber 2 = .ok (.invokestatic 43, 3) := by decide +kernel
theorem dX8_putNumber_5 : decode cX8_putNumber 5 = .ok (.ifCond .eq 12, 3) := by decide +kernel
theorem dX8_putNumber_8 : decode cX8_putNumber 8 = .ok (.iload_n 2, 1) := by decide +kernel
theorem dX8_putNumber_9 : decode cX8_putNumber 9 = .ok (.bipush 100, 2) := by decide +kernel
theorem dX8_putNumber_11 : decode cX8_putNumber 11 = .ok (.invokestatic 43, 3) := by decide +kernel
theorem dX8_putNumber_14 : decode cX8_putNumber 14 = .ok (.ifCond .ne 5, 3) := by decide +kernel
theorem dX8_putNumber_17 : decode cX8_putNumber 17 = .ok (.iconst (-1), 1) := by decide +kernel
theorem dX8_putNumber_18 : decode cX8_putNumber 18 = .ok (.ireturn, 1) := by decide +kernel
theorem dX8_putNumber_19 : decode cX8_putNumber 19 = .ok (.aload_n 0, 1) := by decide +kernel
theorem dX8_putNumber_20 : decode cX8_putNumber 20 = .ok (.getfield 9, 3) := by decide +kernel
theorem dX8_putNumber_23 : decode cX8_putNumber 23 = .ok (.iload_n 1, 1) := by decide +kernel
theorem dX8_putNumber_24 : decode cX8_putNumber 24 = .ok (.iaload, 1) := by decide +kernel
theorem dX8_putNumber_25 : decode cX8_putNumber 25 = .ok (.bipush 6, 2) := by decide +kernel
theorem dX8_putNumber_27 : decode cX8_putNumber 27 = .ok (.if_icmp .lt 6, 3) := by decide +kernel
theorem dX8_putNumber_30 : decode cX8_putNumber 30 = .ok (.bipush (-2), 2) := by decide +kernel
theorem dX8_putNumber_32 : decode cX8_putNumber 32 = .ok (.ireturn, 1) := by decide +kernel
theorem dX8_putNumber_33 : decode cX8_putNumber 33 = .ok (.iload_n 1, 1) := by decide +kernel
theorem dX8_putNumber_34 : decode cX8_putNumber 34 = .ok (.bipush 6, 2) := by decide +kernel
theorem dX8_putNumber_36 : decode cX8_putNumber 36 = .ok (.imul, 1) := by decide +kernel
theorem dX8_putNumber_37 : decode cX8_putNumber 37 = .ok (.istore_n 3, 1) := by decide +kernel
theorem dX8_putNumber_38 : decode cX8_putNumber 38 = .ok (.aload_n 0, 1) := by decide +kernel
theorem dX8_putNumber_39 : decode cX8_putNumber 39 = .ok (.getfield 9, 3) := by decide +kernel
theorem dX8_putNumber_42 : decode cX8_putNumber 42 = .ok (.iload_n 1, 1) := by decide +kernel
theorem dX8_putNumber_43 : decode cX8_putNumber 43 = .ok (.iaload, 1) := by decide +kernel
theorem dX8_putNumber_44 : decode cX8_putNumber 44 = .ok (.istore 4, 2) := by decide +kernel
theorem dX8_putNumber_46 : decode cX8_putNumber 46 = .ok (.iload 4, 2) := by decide +kernel
theorem dX8_putNumber_48 : decode cX8_putNumber 48 = .ok (.ifCond .le 44, 3) := by decide +kernel
theorem dX8_putNumber_51 : decode cX8_putNumber 51 = .ok (.aload_n 0, 1) := by decide +kernel
theorem dX8_putNumber_52 : decode cX8_putNumber 52 = .ok (.getfield 15, 3) := by decide +kernel
theorem dX8_putNumber_55 : decode cX8_putNumber 55 = .ok (.iload_n 3, 1) := by decide +kernel
theorem dX8_putNumber_56 : decode cX8_putNumber 56 = .ok (.iload 4, 2) := by decide +kernel
theorem dX8_putNumber_58 : decode cX8_putNumber 58 = .ok (.iadd, 1) := by decide +kernel
theorem dX8_putNumber_59 : decode cX8_putNumber 59 = .ok (.iconst 1, 1) := by decide +kernel
theorem dX8_putNumber_60 : decode cX8_putNumber 60 = .ok (.isub, 1) := by decide +kernel
theorem dX8_putNumber_61 : decode cX8_putNumber 61 = .ok (.iaload, 1) := by decide +kernel
theorem dX8_putNumber_62 : decode cX8_putNumber 62 = .ok (.iload_n 2, 1) := by decide +kernel
theorem dX8_putNumber_63 : decode cX8_putNumber 63 = .ok (.if_icmp .le 29, 3) := by decide +kernel
theorem dX8_putNumber_66 : decode cX8_putNumber 66 = .ok (.aload_n 0, 1) := by decide +kernel
theorem dX8_putNumber_67 : decode cX8_putNumber 67 = .ok (.getfield 15, 3) := by decide +kernel
theorem dX8_putNumber_70 : decode cX8_putNumber 70 = .ok (.iload_n 3, 1) := by decide +kernel
theorem dX8_putNumber_71 : decode cX8_putNumber 71 = .ok (.iload 4, 2) := by decide +kernel
theorem dX8_putNumber_73 : decode cX8_putNumber 73 = .ok (.iadd, 1) := by decide +kernel
theorem dX8_putNumber_74 : decode cX8_putNumber 74 = .ok (.aload_n 0, 1) := by decide +kernel
theorem dX8_putNumber_75 : decode cX8_putNumber 75 = .ok (.getfield 15, 3) := by decide +kernel
theorem dX8_putNumber_78 : decode cX8_putNumber 78 = .ok (.iload_n 3, 1) := by decide +kernel
theorem dX8_putNumber_79 : decode cX8_putNumber 79 = .ok (.iload 4, 2) := by decide +kernel
theorem dX8_putNumber_81 : decode cX8_putNumber 81 = .ok (.iadd, 1) := by decide +kernel
theorem dX8_putNumber_82 : decode cX8_putNumber 82 = .ok (.iconst 1, 1) := by decide +kernel
theorem dX8_putNumber_83 : decode cX8_putNumber 83 = .ok (.isub, 1) := by decide +kernel
theorem dX8_putNumber_84 : decode cX8_putNumber 84 = .ok (.iaload, 1) := by decide +kernel
theorem dX8_putNumber_85 : decode cX8_putNumber 85 = .ok (.iastore, 1) := by decide +kernel
theorem dX8_putNumber_86 : decode cX8_putNumber 86 = .ok (.iinc 4 (-1), 3) := by decide +kernel
theorem dX8_putNumber_89 : decode cX8_putNumber 89 = .ok (.goto (-43), 3) := by decide +kernel
theorem dX8_putNumber_92 : decode cX8_putNumber 92 = .ok (.aload_n 0, 1) := by decide +kernel
theorem dX8_putNumber_93 : decode cX8_putNumber 93 = .ok (.getfield 15, 3) := by decide +kernel
theorem dX8_putNumber_96 : decode cX8_putNumber 96 = .ok (.iload_n 3, 1) := by decide +kernel
theorem dX8_putNumber_97 : decode cX8_putNumber 97 = .ok (.iload 4, 2) := by decide +kernel
theorem dX8_putNumber_99 : decode cX8_putNumber 99 = .ok (.iadd, 1) := by decide +kernel
theorem dX8_putNumber_100 : decode cX8_putNumber 100 = .ok (.iload_n 2, 1) := by decide +kernel
theorem dX8_putNumber_101 : decode cX8_putNumber 101 = .ok (.iastore, 1) := by decide +kernel
theorem dX8_putNumber_102 : decode cX8_putNumber 102 = .ok (.aload_n 0, 1) := by decide +kernel
theorem dX8_putNumber_103 : decode cX8_putNumber 103 = .ok (.getfield 9, 3) := by decide +kernel
theorem dX8_putNumber_106 : decode cX8_putNumber 106 = .ok (.iload_n 1, 1) := by decide +kernel
theorem dX8_putNumber_107 : decode cX8_putNumber 107 = .ok (.dup2, 1) := by decide +kernel
theorem dX8_putNumber_108 : decode cX8_putNumber 108 = .ok (.iaload, 1) := by decide +kernel
theorem dX8_putNumber_109 : decode cX8_putNumber 109 = .ok (.iconst 1, 1) := by decide +kernel
theorem dX8_putNumber_110 : decode cX8_putNumber 110 = .ok (.iadd, 1) := by decide +kernel
theorem dX8_putNumber_111 : decode cX8_putNumber 111 = .ok (.iastore, 1) := by decide +kernel
theorem dX8_putNumber_112 : decode cX8_putNumber 112 = .ok (.iload 4, 2) := by decide +kernel
theorem dX8_putNumber_114 : decode cX8_putNumber 114 = .ok (.ireturn, 1) := by decide +kernel
theorem dX8_takeNumber_0 : decode cX8_takeNumber 0 = .ok (.aload_n 0, 1) := by decide +kernel
theorem dX8_takeNumber_1 : decode cX8_takeNumber 1 = .ok (.iload_n 1, 1) := by decide +kernel
theorem dX8_takeNumber_2 : decode cX8_takeNumber 2 = .ok (.iload_n 2, 1) := by decide +kernel
theorem dX8_takeNumber_3 : decode cX8_takeNumber 3 = .ok (.invokevirtual 55, 3) := by decide +kernel
theorem dX8_takeNumber_6 : decode cX8_takeNumber 6 = .ok (.istore_n 3, 1) := by decide +kernel
theorem dX8_takeNumber_7 : decode cX8_takeNumber 7 = .ok (.iload_n 3, 1) := by decide +kernel
theorem dX8_takeNumber_8 : decode cX8_takeNumber 8 = .ok (.ifCond .ge 5, 3) := by decide +kernel
theorem dX8_takeNumber_11 : decode cX8_takeNumber 11 = .ok (.iconst (-1), 1) := by decide +kernel
theorem dX8_takeNumber_12 : decode cX8_takeNumber 12 = .ok (.ireturn, 1) := by decide +kernel
theorem dX8_takeNumber_13 : decode cX8_takeNumber 13 = .ok (.iload_n 1, 1) := by decide +kernel
theorem dX8_takeNumber_14 : decode cX8_takeNumber 14 = .ok (.bipush 6, 2) := by decide +kernel
theorem dX8_takeNumber_16 : decode cX8_takeNumber 16 = .ok (.imul, 1) := by decide +kernel
theorem dX8_takeNumber_17 : decode cX8_takeNumber 17 = .ok (.istore 4, 2) := by decide +kernel
theorem dX8_takeNumber_19 : decode cX8_takeNumber 19 = .ok (.iload_n 2, 1) := by decide +kernel
theorem dX8_takeNumber_20 : decode cX8_takeNumber 20 = .ok (.iconst 1, 1) := by decide +kernel
theorem dX8_takeNumber_21 : decode cX8_takeNumber 21 = .ok (.iadd, 1) := by decide +kernel
theorem dX8_takeNumber_22 : decode cX8_takeNumber 22 = .ok (.istore 5, 2) := by decide +kernel
theorem dX8_takeNumber_24 : decode cX8_takeNumber 24 = .ok (.iload 5, 2) := by decide +kernel
theorem dX8_takeNumber_26 : decode cX8_takeNumber 26 = .ok (.aload_n 0, 1) := by decide +kernel
theorem dX8_takeNumber_27 : decode cX8_takeNumber 27 = .ok (.getfield 9, 3) := by decide +kernel
theorem dX8_takeNumber_30 : decode cX8_takeNumber 30 = .ok (.iload_n 1, 1) := by decide +kernel
theorem dX8_takeNumber_31 : decode cX8_takeNumber 31 = .ok (.iaload, 1) := by decide +kernel
theorem dX8_takeNumber_32 : decode cX8_takeNumber 32 = .ok (.if_icmp .ge 31, 3) := by decide +kernel
theorem dX8_takeNumber_35 : decode cX8_takeNumber 35 = .ok (.aload_n 0, 1) := by decide +kernel
theorem dX8_takeNumber_36 : decode cX8_takeNumber 36 = .ok (.getfield 15, 3) := by decide +kernel
theorem dX8_takeNumber_39 : decode cX8_takeNumber 39 = .ok (.iload 4, 2) := by decide +kernel
theorem dX8_takeNumber_41 : decode cX8_takeNumber 41 = .ok (.iload 5, 2) := by decide +kernel
theorem dX8_takeNumber_43 : decode cX8_takeNumber 43 = .ok (.iadd, 1) := by decide +kernel
theorem dX8_takeNumber_44 : decode cX8_takeNumber 44 = .ok (.iconst 1, 1) := by decide +kernel
theorem dX8_takeNumber_45 : decode cX8_takeNumber 45 = .ok (.isub, 1) := by decide +kernel
theorem dX8_takeNumber_46 : decode cX8_takeNumber 46 = .ok (.aload_n 0, 1) := by decide +kernel
theorem dX8_takeNumber_47 : decode cX8_takeNumber 47 = .ok (.getfield 15, 3) := by decide +kernel
theorem dX8_takeNumber_50 : decode cX8_takeNumber 50 = .ok (.iload 4, 2) := by decide +kernel
theorem dX8_takeNumber_52 : decode cX8_takeNumber 52 = .ok (.iload 5, 2) := by decide +kernel
theorem dX8_takeNumber_54 : decode cX8_takeNumber 54 = .ok (.iadd, 1) := by decide +kernel
theorem dX8_takeNumber_55 : decode cX8_takeNumber 55 = .ok (.iaload, 1) := by decide +kernel
theorem dX8_takeNumber_56 : decode cX8_takeNumber 56 = .ok (.iastore, 1) := by decide +kernel
theorem dX8_takeNumber_57 : decode cX8_takeNumber 57 = .ok (.iinc 5 1, 3) := by decide +kernel
theorem dX8_takeNumber_60 : decode cX8_takeNumber 60 = .ok (.goto (-36), 3) := by decide +kernel
theorem dX8_takeNumber_63 : decode cX8_takeNumber 63 = .ok (.aload_n 0, 1) := by decide +kernel
theorem dX8_takeNumber_64 : decode cX8_takeNumber 64 = .ok (.getfield 9, 3) := by decide +kernel
theorem dX8_takeNumber_67 : decode cX8_takeNumber 67 = .ok (.iload_n 1, 1) := by decide +kernel
theorem dX8_takeNumber_68 : decode cX8_takeNumber 68 = .ok (.dup2, 1) := by decide +kernel
theorem dX8_takeNumber_69 : decode cX8_takeNumber 69 = .ok (.iaload, 1) := by decide +kernel
theorem dX8_takeNumber_70 : decode cX8_takeNumber 70 = .ok (.iconst 1, 1) := by decide +kernel
theorem dX8_takeNumber_71 : decode cX8_takeNumber 71 = .ok (.isub, 1) := by decide +kernel
theorem dX8_takeNumber_72 : decode cX8_takeNumber 72 = .ok (.iastore, 1) := by decide +kernel
theorem dX8_takeNumber_73 : decode cX8_takeNumber 73 = .ok (.iload_n 3, 1) := by decide +kernel
theorem dX8_takeNumber_74 : decode cX8_takeNumber 74 = .ok (.ireturn, 1) := by decide +kernel
theorem dX8_weight_0 : decode cX8_weight 0 = .ok (.iload_n 1, 1) := by decide +kernel
theorem dX8_weight_1 : decode cX8_weight 1 = .ok (.iload_n 2, 1) := by decide +kernel
theorem dX8_weight_2 : decode cX8_weight 2 = .ok (.invokestatic 58, 3) := by decide +kernel
theorem dX8_weight_5 : decode cX8_weight 5 = .ok (.ifCond .eq 16, 3) := by decide +kernel
theorem dX8_weight_8 : decode cX8_weight 8 = .ok (.aload_n 0, 1) := by decide +kernel
theorem dX8_weight_9 : decode cX8_weight 9 = .ok (.getfield 18, 3) := by decide +kernel
theorem dX8_weight_12 : decode cX8_weight 12 = .ok (.iload_n 1, 1) := by decide +kernel
theorem dX8_weight_13 : decode cX8_weight 13 = .ok (.iload_n 2, 1) := by decide +kernel
theorem dX8_weight_14 : decode cX8_weight 14 = .ok (.invokestatic 61, 3) := by decide +kernel
theorem dX8_weight_17 : decode cX8_weight 17 = .ok (.iaload, 1) := by decide +kernel
theorem dX8_weight_18 : decode cX8_weight 18 = .ok (.goto 4, 3) := by decide +kernel
theorem dX8_weight_21 : decode cX8_weight 21 = .ok (.iconst 0, 1) := by decide +kernel
theorem dX8_weight_22 : decode cX8_weight 22 = .ok (.ireturn, 1) := by decide +kernel
theorem dX8_edges_0 : decode cX8_edges 0 = .ok (.iconst 0, 1) := by decide +kernel
theorem dX8_edges_1 : decode cX8_edges 1 = .ok (.istore_n 1, 1) := by decide +kernel
theorem dX8_edges_2 : decode cX8_edges 2 = .ok (.iconst 0, 1) := by decide +kernel
theorem dX8_edges_3 : decode cX8_edges 3 = .ok (.istore_n 2, 1) := by decide +kernel
theorem dX8_edges_4 : decode cX8_edges 4 = .ok (.iload_n 2, 1) := by decide +kernel
theorem dX8_edges_5 : decode cX8_edges 5 = .ok (.bipush 49, 2) := by decide +kernel
theorem dX8_edges_7 : decode cX8_edges 7 = .ok (.if_icmp .ge 26, 3) := by decide +kernel
theorem dX8_edges_10 : decode cX8_edges 10 = .ok (.iload_n 1, 1) := by decide +kernel
theorem dX8_edges_11 : decode cX8_edges 11 = .ok (.aload_n 0, 1) := by decide +kernel
theorem dX8_edges_12 : decode cX8_edges 12 = .ok (.getfield 18, 3) := by decide +kernel
theorem dX8_edges_15 : decode cX8_edges 15 = .ok (.iload_n 2, 1) := by decide +kernel
theorem dX8_edges_16 : decode cX8_edges 16 = .ok (.iaload, 1) := by decide +kernel
theorem dX8_edges_17 : decode cX8_edges 17 = .ok (.ifCond .le 7, 3) := by decide +kernel
theorem dX8_edges_20 : decode cX8_edges 20 = .ok (.iconst 1, 1) := by decide +kernel
theorem dX8_edges_21 : decode cX8_edges 21 = .ok (.goto 4, 3) := by decide +kernel
theorem dX8_edges_24 : decode cX8_edges 24 = .ok (.iconst 0, 1) := by decide +kernel
theorem dX8_edges_25 : decode cX8_edges 25 = .ok (.iadd, 1) := by decide +kernel
theorem dX8_edges_26 : decode cX8_edges 26 = .ok (.istore_n 1, 1) := by decide +kernel
theorem dX8_edges_27 : decode cX8_edges 27 = .ok (.iinc 2 1, 3) := by decide +kernel
theorem dX8_edges_30 : decode cX8_edges 30 = .ok (.goto (-26), 3) := by decide +kernel
theorem dX8_edges_33 : decode cX8_edges 33 = .ok (.iload_n 1, 1) := by decide +kernel
theorem dX8_edges_34 : decode cX8_edges 34 = .ok (.ireturn, 1) := by decide +kernel
theorem dX8_pairOfEdge_0 : decode cX8_pairOfEdge 0 = .ok (.iconst 0, 1) := by decide +kernel
theorem dX8_pairOfEdge_1 : decode cX8_pairOfEdge 1 = .ok (.istore_n 2, 1) := by decide +kernel
theorem dX8_pairOfEdge_2 : decode cX8_pairOfEdge 2 = .ok (.iconst 0, 1) := by decide +kernel
theorem dX8_pairOfEdge_3 : decode cX8_pairOfEdge 3 = .ok (.istore_n 3, 1) := by decide +kernel
theorem dX8_pairOfEdge_4 : decode cX8_pairOfEdge 4 = .ok (.iload_n 3, 1) := by decide +kernel
theorem dX8_pairOfEdge_5 : decode cX8_pairOfEdge 5 = .ok (.bipush 49, 2) := by decide +kernel
theorem dX8_pairOfEdge_7 : decode cX8_pairOfEdge 7 = .ok (.if_icmp .ge 28, 3) := by decide +kernel
theorem dX8_pairOfEdge_10 : decode cX8_pairOfEdge 10 = .ok (.aload_n 0, 1) := by decide +kernel
theorem dX8_pairOfEdge_11 : decode cX8_pairOfEdge 11 = .ok (.getfield 18, 3) := by decide +kernel
theorem dX8_pairOfEdge_14 : decode cX8_pairOfEdge 14 = .ok (.iload_n 3, 1) := by decide +kernel
theorem dX8_pairOfEdge_15 : decode cX8_pairOfEdge 15 = .ok (.iaload, 1) := by decide +kernel
theorem dX8_pairOfEdge_16 : decode cX8_pairOfEdge 16 = .ok (.ifCond .le 13, 3) := by decide +kernel
theorem dX8_pairOfEdge_19 : decode cX8_pairOfEdge 19 = .ok (.iload_n 2, 1) := by decide +kernel
theorem dX8_pairOfEdge_20 : decode cX8_pairOfEdge 20 = .ok (.iload_n 1, 1) := by decide +kernel
theorem dX8_pairOfEdge_21 : decode cX8_pairOfEdge 21 = .ok (.if_icmp .ne 5, 3) := by decide +kernel
theorem dX8_pairOfEdge_24 : decode cX8_pairOfEdge 24 = .ok (.iload_n 3, 1) := by decide +kernel
theorem dX8_pairOfEdge_25 : decode cX8_pairOfEdge 25 = .ok (.ireturn, 1) := by decide +kernel
theorem dX8_pairOfEdge_26 : decode cX8_pairOfEdge 26 = .ok (.iinc 2 1, 3) := by decide +kernel
theorem dX8_pairOfEdge_29 : decode cX8_pairOfEdge 29 = .ok (.iinc 3 1, 3) := by decide +kernel
theorem dX8_pairOfEdge_32 : decode cX8_pairOfEdge 32 = .ok (.goto (-28), 3) := by decide +kernel
theorem dX8_pairOfEdge_35 : decode cX8_pairOfEdge 35 = .ok (.iconst (-1), 1) := by decide +kernel
theorem dX8_pairOfEdge_36 : decode cX8_pairOfEdge 36 = .ok (.ireturn, 1) := by decide +kernel
theorem dX8_joinedNodes_0 : decode cX8_joinedNodes 0 = .ok (.iconst 0, 1) := by decide +kernel
theorem dX8_joinedNodes_1 : decode cX8_joinedNodes 1 = .ok (.istore_n 1, 1) := by decide +kernel
theorem dX8_joinedNodes_2 : decode cX8_joinedNodes 2 = .ok (.iconst 0, 1) := by decide +kernel
theorem dX8_joinedNodes_3 : decode cX8_joinedNodes 3 = .ok (.istore_n 2, 1) := by decide +kernel
theorem dX8_joinedNodes_4 : decode cX8_joinedNodes 4 = .ok (.iload_n 2, 1) := by decide +kernel
theorem dX8_joinedNodes_5 : decode cX8_joinedNodes 5 = .ok (.bipush 49, 2) := by decide +kernel
theorem dX8_joinedNodes_7 : decode cX8_joinedNodes 7 = .ok (.if_icmp .ge 34, 3) := by decide +kernel
theorem dX8_joinedNodes_10 : decode cX8_joinedNodes 10 = .ok (.aload_n 0, 1) := by decide +kernel
theorem dX8_joinedNodes_11 : decode cX8_joinedNodes 11 = .ok (.getfield 18, 3) := by decide +kernel
theorem dX8_joinedNodes_14 : decode cX8_joinedNodes 14 = .ok (.iload_n 2, 1) := by decide +kernel
theorem dX8_joinedNodes_15 : decode cX8_joinedNodes 15 = .ok (.iaload, 1) := by decide +kernel
theorem dX8_joinedNodes_16 : decode cX8_joinedNodes 16 = .ok (.ifCond .le 19, 3) := by decide +kernel
theorem dX8_joinedNodes_19 : decode cX8_joinedNodes 19 = .ok (.iload_n 1, 1) := by decide +kernel
theorem dX8_joinedNodes_20 : decode cX8_joinedNodes 20 = .ok (.iconst 1, 1) := by decide +kernel
theorem dX8_joinedNodes_21 : decode cX8_joinedNodes 21 = .ok (.iload_n 2, 1) := by decide +kernel
theorem dX8_joinedNodes_22 : decode cX8_joinedNodes 22 = .ok (.bipush 7, 2) := by decide +kernel
theorem dX8_joinedNodes_24 : decode cX8_joinedNodes 24 = .ok (.idiv, 1) := by decide +kernel
theorem dX8_joinedNodes_25 : decode cX8_joinedNodes 25 = .ok (.ishl, 1) := by decide +kernel
theorem dX8_joinedNodes_26 : decode cX8_joinedNodes 26 = .ok (.iconst 1, 1) := by decide +kernel
theorem dX8_joinedNodes_27 : decode cX8_joinedNodes 27 = .ok (.iload_n 2, 1) := by decide +kernel
theorem dX8_joinedNodes_28 : decode cX8_joinedNodes 28 = .ok (.bipush 7, 2) := by decide +kernel
theorem dX8_joinedNodes_30 : decode cX8_joinedNodes 30 = .ok (.irem, 1) := by decide +kernel
theorem dX8_joinedNodes_31 : decode cX8_joinedNodes 31 = .ok (.ishl, 1) := by decide +kernel
theorem dX8_joinedNodes_32 : decode cX8_joinedNodes 32 = .ok (.ior, 1) := by decide +kernel
theorem dX8_joinedNodes_33 : decode cX8_joinedNodes 33 = .ok (.ior, 1) := by decide +kernel
theorem dX8_joinedNodes_34 : decode cX8_joinedNodes 34 = .ok (.istore_n 1, 1) := by decide +kernel
theorem dX8_joinedNodes_35 : decode cX8_joinedNodes 35 = .ok (.iinc 2 1, 3) := by decide +kernel
theorem dX8_joinedNodes_38 : decode cX8_joinedNodes 38 = .ok (.goto (-34), 3) := by decide +kernel
theorem dX8_joinedNodes_41 : decode cX8_joinedNodes 41 = .ok (.iload_n 1, 1) := by decide +kernel
theorem dX8_joinedNodes_42 : decode cX8_joinedNodes 42 = .ok (.ireturn, 1) := by decide +kernel
theorem dX8_joinNodes_0 : decode cX8_joinNodes 0 = .ok (.iload_n 1, 1) := by decide +kernel
theorem dX8_joinNodes_1 : decode cX8_joinNodes 1 = .ok (.iload_n 2, 1) := by decide +kernel
theorem dX8_joinNodes_2 : decode cX8_joinNodes 2 = .ok (.invokestatic 58, 3) := by decide +kernel
theorem dX8_joinNodes_5 : decode cX8_joinNodes 5 = .ok (.ifCond .eq 12, 3) := by decide +kernel
theorem dX8_joinNodes_8 : decode cX8_joinNodes 8 = .ok (.iload_n 3, 1) := by decide +kernel
theorem dX8_joinNodes_9 : decode cX8_joinNodes 9 = .ok (.bipush 100, 2) := by decide +kernel
theorem dX8_joinNodes_11 : decode cX8_joinNodes 11 = .ok (.invokestatic 43, 3) := by decide +kernel
theorem dX8_joinNodes_14 : decode cX8_joinNodes 14 = .ok (.ifCond .ne 5, 3) := by decide +kernel
theorem dX8_joinNodes_17 : decode cX8_joinNodes 17 = .ok (.iconst (-1), 1) := by decide +kernel
theorem dX8_joinNodes_18 : decode cX8_joinNodes 18 = .ok (.ireturn, 1) := by decide +kernel
theorem dX8_joinNodes_19 : decode cX8_joinNodes 19 = .ok (.iload_n 1, 1) := by decide +kernel
theorem dX8_joinNodes_20 : decode cX8_joinNodes 20 = .ok (.iload_n 2, 1) := by decide +kernel
theorem dX8_joinNodes_21 : decode cX8_joinNodes 21 = .ok (.invokestatic 61, 3) := by decide +kernel
theorem dX8_joinNodes_24 : decode cX8_joinNodes 24 = .ok (.istore 4, 2) := by decide +kernel
theorem dX8_joinNodes_26 : decode cX8_joinNodes 26 = .ok (.aload_n 0, 1) := by decide +kernel
theorem dX8_joinNodes_27 : decode cX8_joinNodes 27 = .ok (.getfield 18, 3) := by decide +kernel
theorem dX8_joinNodes_30 : decode cX8_joinNodes 30 = .ok (.iload 4, 2) := by decide +kernel
theorem dX8_joinNodes_32 : decode cX8_joinNodes 32 = .ok (.iaload, 1) := by decide +kernel
theorem dX8_joinNodes_33 : decode cX8_joinNodes 33 = .ok (.ifCond .le 7, 3) := by decide +kernel
theorem dX8_joinNodes_36 : decode cX8_joinNodes 36 = .ok (.iconst 1, 1) := by decide +kernel
theorem dX8_joinNodes_37 : decode cX8_joinNodes 37 = .ok (.goto 4, 3) := by decide +kernel
theorem dX8_joinNodes_40 : decode cX8_joinNodes 40 = .ok (.iconst 0, 1) := by decide +kernel
theorem dX8_joinNodes_41 : decode cX8_joinNodes 41 = .ok (.istore 5, 2) := by decide +kernel
theorem dX8_joinNodes_43 : decode cX8_joinNodes 43 = .ok (.iload_n 3, 1) := by decide +kernel
theorem dX8_joinNodes_44 : decode cX8_joinNodes 44 = .ok (.ifCond .ne 11, 3) := by decide +kernel
theorem dX8_joinNodes_47 : decode cX8_joinNodes 47 = .ok (.iload 5, 2) := by decide +kernel
theorem dX8_joinNodes_49 : decode cX8_joinNodes 49 = .ok (.ifCond .ne 6, 3) := by decide +kernel
theorem dX8_joinNodes_52 : decode cX8_joinNodes 52 = .ok (.bipush (-2), 2) := by decide +kernel
theorem dX8_joinNodes_54 : decode cX8_joinNodes 54 = .ok (.ireturn, 1) := by decide +kernel
theorem dX8_joinNodes_55 : decode cX8_joinNodes 55 = .ok (.iload 5, 2) := by decide +kernel
theorem dX8_joinNodes_57 : decode cX8_joinNodes 57 = .ok (.ifCond .ne 15, 3) := by decide +kernel
theorem dX8_joinNodes_60 : decode cX8_joinNodes 60 = .ok (.aload_n 0, 1) := by decide +kernel
theorem dX8_joinNodes_61 : decode cX8_joinNodes 61 = .ok (.invokevirtual 64, 3) := by decide +kernel
theorem dX8_joinNodes_64 : decode cX8_joinNodes 64 = .ok (.bipush 12, 2) := by decide +kernel
theorem dX8_joinNodes_66 : decode cX8_joinNodes 66 = .ok (.if_icmp .lt 6, 3) := by decide +kernel
theorem dX8_joinNodes_69 : decode cX8_joinNodes 69 = .ok (.bipush (-3), 2) := by decide +kernel
theorem dX8_joinNodes_71 : decode cX8_joinNodes 71 = .ok (.ireturn, 1) := by decide +kernel
theorem dX8_joinNodes_72 : decode cX8_joinNodes 72 = .ok (.aload_n 0, 1) := by decide +kernel
theorem dX8_joinNodes_73 : decode cX8_joinNodes 73 = .ok (.getfield 18, 3) := by decide +kernel
theorem dX8_joinNodes_76 : decode cX8_joinNodes 76 = .ok (.iload 4, 2) := by decide +kernel
theorem dX8_joinNodes_78 : decode cX8_joinNodes 78 = .ok (.iload_n 3, 1) := by decide +kernel
theorem dX8_joinNodes_79 : decode cX8_joinNodes 79 = .ok (.iastore, 1) := by decide +kernel
theorem dX8_joinNodes_80 : decode cX8_joinNodes 80 = .ok (.aload_n 0, 1) := by decide +kernel
theorem dX8_joinNodes_81 : decode cX8_joinNodes 81 = .ok (.invokevirtual 64, 3) := by decide +kernel
theorem dX8_joinNodes_84 : decode cX8_joinNodes 84 = .ok (.ireturn, 1) := by decide +kernel
theorem dX8_weigh_0 : decode cX8_weigh 0 = .ok (.iconst 0, 1) := by decide +kernel
theorem dX8_weigh_1 : decode cX8_weigh 1 = .ok (.istore 5, 2) := by decide +kernel
theorem dX8_weigh_3 : decode cX8_weigh 3 = .ok (.iconst 0, 1) := by decide +kernel
theorem dX8_weigh_4 : decode cX8_weigh 4 = .ok (.istore 6, 2) := by decide +kernel
theorem dX8_weigh_6 : decode cX8_weigh 6 = .ok (.iconst 0, 1) := by decide +kernel
theorem dX8_weigh_7 : decode cX8_weigh 7 = .ok (.istore 7, 2) := by decide +kernel
theorem dX8_weigh_9 : decode cX8_weigh 9 = .ok (.iload 7, 2) := by decide +kernel
theorem dX8_weigh_11 : decode cX8_weigh 11 = .ok (.bipush 49, 2) := by decide +kernel
theorem dX8_weigh_13 : decode cX8_weigh 13 = .ok (.if_icmp .ge 62, 3) := by decide +kernel
theorem dX8_weigh_16 : decode cX8_weigh 16 = .ok (.aload_n 0, 1) := by decide +kernel
theorem dX8_weigh_17 : decode cX8_weigh 17 = .ok (.getfield 18, 3) := by decide +kernel
theorem dX8_weigh_20 : decode cX8_weigh 20 = .ok (.iload 7, 2) := by decide +kernel
theorem dX8_weigh_22 : decode cX8_weigh 22 = .ok (.iaload, 1) := by decide +kernel
theorem dX8_weigh_23 : decode cX8_weigh 23 = .ok (.ifCond .le 46, 3) := by decide +kernel
theorem dX8_weigh_26 : decode cX8_weigh 26 = .ok (.aload_n 0, 1) := by decide +kernel
theorem dX8_weigh_27 : decode cX8_weigh 27 = .ok (.getfield 18, 3) := by decide +kernel
theorem dX8_weigh_30 : decode cX8_weigh 30 = .ok (.iload 7, 2) := by decide +kernel
theorem dX8_weigh_32 : decode cX8_weigh 32 = .ok (.iload 6, 2) := by decide +kernel
theorem dX8_weigh_34 : decode cX8_weigh 34 = .ok (.iload_n 2, 1) := by decide +kernel
theorem dX8_weigh_35 : decode cX8_weigh 35 = .ok (.if_icmp .ge 17, 3) := by decide +kernel
theorem dX8_weigh_38 : decode cX8_weigh 38 = .ok (.iload_n 1, 1) := by decide +kernel
theorem dX8_weigh_39 : decode cX8_weigh 39 = .ok (.iload_n 3, 1) := by decide +kernel
theorem dX8_weigh_40 : decode cX8_weigh 40 = .ok (.iload 6, 2) := by decide +kernel
theorem dX8_weigh_42 : decode cX8_weigh 42 = .ok (.iload 4, 2) := by decide +kernel
theorem dX8_weigh_44 : decode cX8_weigh 44 = .ok (.imul, 1) := by decide +kernel
theorem dX8_weigh_45 : decode cX8_weigh 45 = .ok (.iadd, 1) := by decide +kernel
theorem dX8_weigh_46 : decode cX8_weigh 46 = .ok (.invokestatic 68, 3) := by decide +kernel
theorem dX8_weigh_49 : decode cX8_weigh 49 = .ok (.goto 4, 3) := by decide +kernel
theorem dX8_weigh_52 : decode cX8_weigh 52 = .ok (.iconst 1, 1) := by decide +kernel
theorem dX8_weigh_53 : decode cX8_weigh 53 = .ok (.iastore, 1) := by decide +kernel
theorem dX8_weigh_54 : decode cX8_weigh 54 = .ok (.iload 5, 2) := by decide +kernel
theorem dX8_weigh_56 : decode cX8_weigh 56 = .ok (.aload_n 0, 1) := by decide +kernel
theorem dX8_weigh_57 : decode cX8_weigh 57 = .ok (.getfield 18, 3) := by decide +kernel
theorem dX8_weigh_60 : decode cX8_weigh 60 = .ok (.iload 7, 2) := by decide +kernel
theorem dX8_weigh_62 : decode cX8_weigh 62 = .ok (.iaload, 1) := by decide +kernel
theorem dX8_weigh_63 : decode cX8_weigh 63 = .ok (.iadd, 1) := by decide +kernel
theorem dX8_weigh_64 : decode cX8_weigh 64 = .ok (.istore 5, 2) := by decide +kernel
theorem dX8_weigh_66 : decode cX8_weigh 66 = .ok (.iinc 6 1, 3) := by decide +kernel
theorem dX8_weigh_69 : decode cX8_weigh 69 = .ok (.iinc 7 1, 3) := by decide +kernel
theorem dX8_weigh_72 : decode cX8_weigh 72 = .ok (.goto (-63), 3) := by decide +kernel
theorem dX8_weigh_75 : decode cX8_weigh 75 = .ok (.iload 5, 2) := by decide +kernel
theorem dX8_weigh_77 : decode cX8_weigh 77 = .ok (.ireturn, 1) := by decide +kernel
theorem dX8_setCost_0 : decode cX8_setCost 0 = .ok (.iload_n 1, 1) := by decide +kernel
theorem dX8_setCost_1 : decode cX8_setCost 1 = .ok (.iconst 5, 1) := by decide +kernel
theorem dX8_setCost_2 : decode cX8_setCost 2 = .ok (.invokestatic 43, 3) := by decide +kernel
theorem dX8_setCost_5 : decode cX8_setCost 5 = .ok (.ifCond .eq 20, 3) := by decide +kernel
theorem dX8_setCost_8 : decode cX8_setCost 8 = .ok (.iload_n 2, 1) := by decide +kernel
theorem dX8_setCost_9 : decode cX8_setCost 9 = .ok (.iconst 5, 1) := by decide +kernel
theorem dX8_setCost_10 : decode cX8_setCost 10 = .ok (.invokestatic 43, 3) := by decide +kernel
theorem dX8_setCost_13 : decode cX8_setCost 13 = .ok (.ifCond .eq 12, 3) := by decide +kernel
theorem dX8_setCost_16 : decode cX8_setCost 16 = .ok (.iload_n 3, 1) := by decide +kernel
theorem dX8_setCost_17 : decode cX8_setCost 17 = .ok (.bipush 100, 2) := by decide +kernel
theorem dX8_setCost_19 : decode cX8_setCost 19 = .ok (.invokestatic 43, 3) := by decide +kernel
theorem dX8_setCost_22 : decode cX8_setCost 22 = .ok (.ifCond .ne 5, 3) := by decide +kernel
theorem dX8_setCost_25 : decode cX8_setCost 25 = .ok (.iconst (-1), 1) := by decide +kernel
theorem dX8_setCost_26 : decode cX8_setCost 26 = .ok (.ireturn, 1) := by decide +kernel
theorem dX8_setCost_27 : decode cX8_setCost 27 = .ok (.aload_n 0, 1) := by decide +kernel
theorem dX8_setCost_28 : decode cX8_setCost 28 = .ok (.getfield 21, 3) := by decide +kernel
theorem dX8_setCost_31 : decode cX8_setCost 31 = .ok (.iload_n 1, 1) := by decide +kernel
theorem dX8_setCost_32 : decode cX8_setCost 32 = .ok (.iconst 5, 1) := by decide +kernel
theorem dX8_setCost_33 : decode cX8_setCost 33 = .ok (.imul, 1) := by decide +kernel
theorem dX8_setCost_34 : decode cX8_setCost 34 = .ok (.iload_n 2, 1) := by decide +kernel
theorem dX8_setCost_35 : decode cX8_setCost 35 = .ok (.iadd, 1) := by decide +kernel
theorem dX8_setCost_36 : decode cX8_setCost 36 = .ok (.iaload, 1) := by decide +kernel
theorem dX8_setCost_37 : decode cX8_setCost 37 = .ok (.istore 4, 2) := by decide +kernel
theorem dX8_setCost_39 : decode cX8_setCost 39 = .ok (.aload_n 0, 1) := by decide +kernel
theorem dX8_setCost_40 : decode cX8_setCost 40 = .ok (.getfield 21, 3) := by decide +kernel
theorem dX8_setCost_43 : decode cX8_setCost 43 = .ok (.iload_n 1, 1) := by decide +kernel
theorem dX8_setCost_44 : decode cX8_setCost 44 = .ok (.iconst 5, 1) := by decide +kernel
theorem dX8_setCost_45 : decode cX8_setCost 45 = .ok (.imul, 1) := by decide +kernel
theorem dX8_setCost_46 : decode cX8_setCost 46 = .ok (.iload_n 2, 1) := by decide +kernel
theorem dX8_setCost_47 : decode cX8_setCost 47 = .ok (.iadd, 1) := by decide +kernel
theorem dX8_setCost_48 : decode cX8_setCost 48 = .ok (.iload_n 3, 1) := by decide +kernel
theorem dX8_setCost_49 : decode cX8_setCost 49 = .ok (.iastore, 1) := by decide +kernel
theorem dX8_setCost_50 : decode cX8_setCost 50 = .ok (.iload 4, 2) := by decide +kernel
theorem dX8_setCost_52 : decode cX8_setCost 52 = .ok (.ireturn, 1) := by decide +kernel
theorem dX8_costAt_0 : decode cX8_costAt 0 = .ok (.iload_n 1, 1) := by decide +kernel
theorem dX8_costAt_1 : decode cX8_costAt 1 = .ok (.iconst 5, 1) := by decide +kernel
theorem dX8_costAt_2 : decode cX8_costAt 2 = .ok (.invokestatic 43, 3) := by decide +kernel
theorem dX8_costAt_5 : decode cX8_costAt 5 = .ok (.ifCond .eq 24, 3) := by decide +kernel
theorem dX8_costAt_8 : decode cX8_costAt 8 = .ok (.iload_n 2, 1) := by decide +kernel
theorem dX8_costAt_9 : decode cX8_costAt 9 = .ok (.iconst 5, 1) := by decide +kernel
theorem dX8_costAt_10 : decode cX8_costAt 10 = .ok (.invokestatic 43, 3) := by decide +kernel
theorem dX8_costAt_13 : decode cX8_costAt 13 = .ok (.ifCond .eq 16, 3) := by decide +kernel
theorem dX8_costAt_16 : decode cX8_costAt 16 = .ok (.aload_n 0, 1) := by decide +kernel
theorem dX8_costAt_17 : decode cX8_costAt 17 = .ok (.getfield 21, 3) := by decide +kernel
theorem dX8_costAt_20 : decode cX8_costAt 20 = .ok (.iload_n 1, 1) := by decide +kernel
theorem dX8_costAt_21 : decode cX8_costAt 21 = .ok (.iconst 5, 1) := by decide +kernel
theorem dX8_costAt_22 : decode cX8_costAt 22 = .ok (.imul, 1) := by decide +kernel
theorem dX8_costAt_23 : decode cX8_costAt 23 = .ok (.iload_n 2, 1) := by decide +kernel
theorem dX8_costAt_24 : decode cX8_costAt 24 = .ok (.iadd, 1) := by decide +kernel
theorem dX8_costAt_25 : decode cX8_costAt 25 = .ok (.iaload, 1) := by decide +kernel
theorem dX8_costAt_26 : decode cX8_costAt 26 = .ok (.goto 4, 3) := by decide +kernel
theorem dX8_costAt_29 : decode cX8_costAt 29 = .ok (.iconst 0, 1) := by decide +kernel
theorem dX8_costAt_30 : decode cX8_costAt 30 = .ok (.ireturn, 1) := by decide +kernel
theorem dX8_setWhat_0 : decode cX8_setWhat 0 = .ok (.iload_n 1, 1) := by decide +kernel
theorem dX8_setWhat_1 : decode cX8_setWhat 1 = .ok (.ifCond .ne 7, 3) := by decide +kernel
theorem dX8_setWhat_4 : decode cX8_setWhat 4 = .ok (.iconst 1, 1) := by decide +kernel
theorem dX8_setWhat_5 : decode cX8_setWhat 5 = .ok (.goto 4, 3) := by decide +kernel
theorem dX8_setWhat_8 : decode cX8_setWhat 8 = .ok (.iconst 0, 1) := by decide +kernel
theorem dX8_setWhat_9 : decode cX8_setWhat 9 = .ok (.istore_n 3, 1) := by decide +kernel
theorem dX8_setWhat_10 : decode cX8_setWhat 10 = .ok (.iload_n 1, 1) := by decide +kernel
theorem dX8_setWhat_11 : decode cX8_setWhat 11 = .ok (.iconst 2, 1) := by decide +kernel
theorem dX8_setWhat_12 : decode cX8_setWhat 12 = .ok (.invokestatic 43, 3) := by decide +kernel
theorem dX8_setWhat_15 : decode cX8_setWhat 15 = .ok (.ifCond .eq 20, 3) := by decide +kernel
theorem dX8_setWhat_18 : decode cX8_setWhat 18 = .ok (.iload_n 2, 1) := by decide +kernel
theorem dX8_setWhat_19 : decode cX8_setWhat 19 = .ok (.iload_n 3, 1) := by decide +kernel
theorem dX8_setWhat_20 : decode cX8_setWhat 20 = .ok (.ifCond .eq 8, 3) := by decide +kernel
theorem dX8_setWhat_23 : decode cX8_setWhat 23 = .ok (.bipush 6, 2) := by decide +kernel
theorem dX8_setWhat_25 : decode cX8_setWhat 25 = .ok (.goto 4, 3) := by decide +kernel
theorem dX8_setWhat_28 : decode cX8_setWhat 28 = .ok (.iconst 4, 1) := by decide +kernel
theorem dX8_setWhat_29 : decode cX8_setWhat 29 = .ok (.invokestatic 43, 3) := by decide +kernel
theorem dX8_setWhat_32 : decode cX8_setWhat 32 = .ok (.ifCond .ne 5, 3) := by decide +kernel
theorem dX8_setWhat_35 : decode cX8_setWhat 35 = .ok (.iconst (-1), 1) := by decide +kernel
theorem dX8_setWhat_36 : decode cX8_setWhat 36 = .ok (.ireturn, 1) := by decide +kernel
theorem dX8_setWhat_37 : decode cX8_setWhat 37 = .ok (.iload_n 3, 1) := by decide +kernel
theorem dX8_setWhat_38 : decode cX8_setWhat 38 = .ok (.ifCond .eq 10, 3) := by decide +kernel
theorem dX8_setWhat_41 : decode cX8_setWhat 41 = .ok (.aload_n 0, 1) := by decide +kernel
theorem dX8_setWhat_42 : decode cX8_setWhat 42 = .ok (.getfield 34, 3) := by decide +kernel
theorem dX8_setWhat_45 : decode cX8_setWhat 45 = .ok (.goto 7, 3) := by decide +kernel
theorem dX8_setWhat_48 : decode cX8_setWhat 48 = .ok (.aload_n 0, 1) := by decide +kernel
theorem dX8_setWhat_49 : decode cX8_setWhat 49 = .ok (.getfield 37, 3) := by decide +kernel
theorem dX8_setWhat_52 : decode cX8_setWhat 52 = .ok (.istore 4, 2) := by decide +kernel
theorem dX8_setWhat_54 : decode cX8_setWhat 54 = .ok (.iload 4, 2) := by decide +kernel
theorem dX8_setWhat_56 : decode cX8_setWhat 56 = .ok (.iload_n 2, 1) := by decide +kernel
theorem dX8_setWhat_57 : decode cX8_setWhat 57 = .ok (.if_icmp .ne 6, 3) := by decide +kernel
theorem dX8_setWhat_60 : decode cX8_setWhat 60 = .ok (.bipush (-2), 2) := by decide +kernel
theorem dX8_setWhat_62 : decode cX8_setWhat 62 = .ok (.ireturn, 1) := by decide +kernel
theorem dX8_setWhat_63 : decode cX8_setWhat 63 = .ok (.iload_n 3, 1) := by decide +kernel
theorem dX8_setWhat_64 : decode cX8_setWhat 64 = .ok (.ifCond .eq 11, 3) := by decide +kernel
theorem dX8_setWhat_67 : decode cX8_setWhat 67 = .ok (.aload_n 0, 1) := by decide +kernel
theorem dX8_setWhat_68 : decode cX8_setWhat 68 = .ok (.iload_n 2, 1) := by decide +kernel
theorem dX8_setWhat_69 : decode cX8_setWhat 69 = .ok (.putfield 34, 3) := by decide +kernel
theorem dX8_setWhat_72 : decode cX8_setWhat 72 = .ok (.goto 8, 3) := by decide +kernel
theorem dX8_setWhat_75 : decode cX8_setWhat 75 = .ok (.aload_n 0, 1) := by decide +kernel
theorem dX8_setWhat_76 : decode cX8_setWhat 76 = .ok (.iload_n 2, 1) := by decide +kernel
theorem dX8_setWhat_77 : decode cX8_setWhat 77 = .ok (.putfield 37, 3) := by decide +kernel
theorem dX8_setWhat_80 : decode cX8_setWhat 80 = .ok (.bipush 10, 2) := by decide +kernel
theorem dX8_setWhat_82 : decode cX8_setWhat 82 = .ok (.iload 4, 2) := by decide +kernel
theorem dX8_setWhat_84 : decode cX8_setWhat 84 = .ok (.iadd, 1) := by decide +kernel
theorem dX8_setWhat_85 : decode cX8_setWhat 85 = .ok (.ireturn, 1) := by decide +kernel
theorem dX8_setEnds_0 : decode cX8_setEnds 0 = .ok (.iload_n 1, 1) := by decide +kernel
theorem dX8_setEnds_1 : decode cX8_setEnds 1 = .ok (.iload_n 2, 1) := by decide +kernel
theorem dX8_setEnds_2 : decode cX8_setEnds 2 = .ok (.invokestatic 58, 3) := by decide +kernel
theorem dX8_setEnds_5 : decode cX8_setEnds 5 = .ok (.ifCond .ne 5, 3) := by decide +kernel
theorem dX8_setEnds_8 : decode cX8_setEnds 8 = .ok (.iconst (-1), 1) := by decide +kernel
theorem dX8_setEnds_9 : decode cX8_setEnds 9 = .ok (.ireturn, 1) := by decide +kernel
theorem dX8_setEnds_10 : decode cX8_setEnds 10 = .ok (.aload_n 0, 1) := by decide +kernel
theorem dX8_setEnds_11 : decode cX8_setEnds 11 = .ok (.invokevirtual 71, 3) := by decide +kernel
theorem dX8_setEnds_14 : decode cX8_setEnds 14 = .ok (.istore_n 3, 1) := by decide +kernel
theorem dX8_setEnds_15 : decode cX8_setEnds 15 = .ok (.aload_n 0, 1) := by decide +kernel
theorem dX8_setEnds_16 : decode cX8_setEnds 16 = .ok (.iload_n 1, 1) := by decide +kernel
theorem dX8_setEnds_17 : decode cX8_setEnds 17 = .ok (.putfield 40, 3) := by decide +kernel
theorem dX8_setEnds_20 : decode cX8_setEnds 20 = .ok (.aload_n 0, 1) := by decide +kernel
theorem dX8_setEnds_21 : decode cX8_setEnds 21 = .ok (.iload_n 2, 1) := by decide +kernel
theorem dX8_setEnds_22 : decode cX8_setEnds 22 = .ok (.putfield 24, 3) := by decide +kernel
theorem dX8_setEnds_25 : decode cX8_setEnds 25 = .ok (.iload_n 3, 1) := by decide +kernel
theorem dX8_setEnds_26 : decode cX8_setEnds 26 = .ok (.ireturn, 1) := by decide +kernel
theorem dX8_isBelow_0 : decode cX8_isBelow 0 = .ok (.iload_n 0, 1) := by decide +kernel
theorem dX8_isBelow_1 : decode cX8_isBelow 1 = .ok (.ifCond .lt 12, 3) := by decide +kernel
theorem dX8_isBelow_4 : decode cX8_isBelow 4 = .ok (.iload_n 0, 1) := by decide +kernel
theorem dX8_isBelow_5 : decode cX8_isBelow 5 = .ok (.iload_n 1, 1) := by decide +kernel
theorem dX8_isBelow_6 : decode cX8_isBelow 6 = .ok (.if_icmp .ge 7, 3) := by decide +kernel
theorem dX8_isBelow_9 : decode cX8_isBelow 9 = .ok (.iconst 1, 1) := by decide +kernel
theorem dX8_isBelow_10 : decode cX8_isBelow 10 = .ok (.goto 4, 3) := by decide +kernel
theorem dX8_isBelow_13 : decode cX8_isBelow 13 = .ok (.iconst 0, 1) := by decide +kernel
theorem dX8_isBelow_14 : decode cX8_isBelow 14 = .ok (.ireturn, 1) := by decide +kernel
theorem dX8_areTwoNodes_0 : decode cX8_areTwoNodes 0 = .ok (.iload_n 0, 1) := by decide +kernel
theorem dX8_areTwoNodes_1 : decode cX8_areTwoNodes 1 = .ok (.bipush 7, 2) := by decide +kernel
theorem dX8_areTwoNodes_3 : decode cX8_areTwoNodes 3 = .ok (.invokestatic 43, 3) := by decide +kernel
theorem dX8_areTwoNodes_6 : decode cX8_areTwoNodes 6 = .ok (.ifCond .eq 21, 3) := by decide +kernel
theorem dX8_areTwoNodes_9 : decode cX8_areTwoNodes 9 = .ok (.iload_n 1, 1) := by decide +kernel
theorem dX8_areTwoNodes_10 : decode cX8_areTwoNodes 10 = .ok (.bipush 7, 2) := by decide +kernel
theorem dX8_areTwoNodes_12 : decode cX8_areTwoNodes 12 = .ok (.invokestatic 43, 3) := by decide +kernel
theorem dX8_areTwoNodes_15 : decode cX8_areTwoNodes 15 = .ok (.ifCond .eq 12, 3) := by decide +kernel
theorem dX8_areTwoNodes_18 : decode cX8_areTwoNodes 18 = .ok (.iload_n 0, 1) := by decide +kernel
theorem dX8_areTwoNodes_19 : decode cX8_areTwoNodes 19 = .ok (.iload_n 1, 1) := by decide +kernel
theorem dX8_areTwoNodes_20 : decode cX8_areTwoNodes 20 = .ok (.if_icmp .eq 7, 3) := by decide +kernel
theorem dX8_areTwoNodes_23 : decode cX8_areTwoNodes 23 = .ok (.iconst 1, 1) := by decide +kernel
theorem dX8_areTwoNodes_24 : decode cX8_areTwoNodes 24 = .ok (.goto 4, 3) := by decide +kernel
theorem dX8_areTwoNodes_27 : decode cX8_areTwoNodes 27 = .ok (.iconst 0, 1) := by decide +kernel
theorem dX8_areTwoNodes_28 : decode cX8_areTwoNodes 28 = .ok (.ireturn, 1) := by decide +kernel
theorem dX8_pairOf_0 : decode cX8_pairOf 0 = .ok (.iload_n 0, 1) := by decide +kernel
theorem dX8_pairOf_1 : decode cX8_pairOf 1 = .ok (.iload_n 1, 1) := by decide +kernel
theorem dX8_pairOf_2 : decode cX8_pairOf 2 = .ok (.invokestatic 74, 3) := by decide +kernel
theorem dX8_pairOf_5 : decode cX8_pairOf 5 = .ok (.bipush 7, 2) := by decide +kernel
theorem dX8_pairOf_7 : decode cX8_pairOf 7 = .ok (.imul, 1) := by decide +kernel
theorem dX8_pairOf_8 : decode cX8_pairOf 8 = .ok (.iload_n 0, 1) := by decide +kernel
theorem dX8_pairOf_9 : decode cX8_pairOf 9 = .ok (.iload_n 1, 1) := by decide +kernel
theorem dX8_pairOf_10 : decode cX8_pairOf 10 = .ok (.invokestatic 79, 3) := by decide +kernel
theorem dX8_pairOf_13 : decode cX8_pairOf 13 = .ok (.iadd, 1) := by decide +kernel
theorem dX8_pairOf_14 : decode cX8_pairOf 14 = .ok (.ireturn, 1) := by decide +kernel
theorem dX8_entry_0 : decode cX8_entry 0 = .ok (.iload_n 1, 1) := by decide +kernel
theorem dX8_entry_1 : decode cX8_entry 1 = .ok (.istore_n 2, 1) := by decide +kernel
theorem dX8_entry_2 : decode cX8_entry 2 = .ok (.iload_n 0, 1) := by decide +kernel
theorem dX8_entry_3 : decode cX8_entry 3 = .ok (.ifCond .ne 9, 3) := by decide +kernel
theorem dX8_entry_6 : decode cX8_entry 6 = .ok (.iload_n 1, 1) := by decide +kernel
theorem dX8_entry_7 : decode cX8_entry 7 = .ok (.i2b, 1) := by decide +kernel
theorem dX8_entry_8 : decode cX8_entry 8 = .ok (.istore_n 2, 1) := by decide +kernel
theorem dX8_entry_9 : decode cX8_entry 9 = .ok (.goto 11, 3) := by decide +kernel
theorem dX8_entry_12 : decode cX8_entry 12 = .ok (.iload_n 0, 1) := by decide +kernel
theorem dX8_entry_13 : decode cX8_entry 13 = .ok (.iconst 1, 1) := by decide +kernel
theorem dX8_entry_14 : decode cX8_entry 14 = .ok (.if_icmp .ne 6, 3) := by decide +kernel
theorem dX8_entry_17 : decode cX8_entry 17 = .ok (.iload_n 1, 1) := by decide +kernel
theorem dX8_entry_18 : decode cX8_entry 18 = .ok (.i2s, 1) := by decide +kernel
theorem dX8_entry_19 : decode cX8_entry 19 = .ok (.istore_n 2, 1) := by decide +kernel
theorem dX8_entry_20 : decode cX8_entry 20 = .ok (.iconst 1, 1) := by decide +kernel
theorem dX8_entry_21 : decode cX8_entry 21 = .ok (.bipush 99, 2) := by decide +kernel
theorem dX8_entry_23 : decode cX8_entry 23 = .ok (.iload_n 2, 1) := by decide +kernel
theorem dX8_entry_24 : decode cX8_entry 24 = .ok (.invokestatic 74, 3) := by decide +kernel
theorem dX8_entry_27 : decode cX8_entry 27 = .ok (.invokestatic 79, 3) := by decide +kernel
theorem dX8_entry_30 : decode cX8_entry 30 = .ok (.ireturn, 1) := by decide +kernel
