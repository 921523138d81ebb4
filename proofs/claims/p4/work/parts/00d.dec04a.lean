theorem dX4_init_0 : decode cX4_init 0 = .ok (.aload_n 0, 1) := by decide +kernel
theorem dX4_init_1 : decode cX4_init 1 = .ok (.invokespecial 3, 3) := by decide +kernel
theorem dX4_init_4 : decode cX4_init 4 = .ok (.aload_n 0, 1) := by decide +kernel
theorem dX4_init_5 : decode cX4_init 5 = .ok (.iconst 4, 1) := by decide +kernel
theorem dX4_init_6 : decode cX4_init 6 = .ok (.newarray .int, 2) := by decide +kernel
theorem dX4_init_8 : decode cX4_init 8 = .ok (.putfield 9, 3) := by decide +kernel
theorem dX4_init_11 : decode cX4_init 11 = .ok (.aload_n 0, 1) := by decide +kernel
theorem dX4_init_12 : decode cX4_init 12 = .ok (.bipush 12, 2) := by decide +kernel
theorem dX4_init_14 : decode cX4_init 14 = .ok (.newarray .int, 2) := by decide +kernel
theorem dX4_init_16 : decode cX4_init 16 = .ok (.putfield 15, 3) := by decide +kernel
theorem dX4_init_19 : decode cX4_init 19 = .ok (.aload_n 0, 1) := by decide +kernel
theorem dX4_init_20 : decode cX4_init 20 = .ok (.bipush 12, 2) := by decide +kernel
theorem dX4_init_22 : decode cX4_init 22 = .ok (.newarray .int, 2) := by decide +kernel
theorem dX4_init_24 : decode cX4_init 24 = .ok (.putfield 18, 3) := by decide +kernel
theorem dX4_init_27 : decode cX4_init 27 = .ok (.aload_n 0, 1) := by decide +kernel
theorem dX4_init_28 : decode cX4_init 28 = .ok (.bipush 12, 2) := by decide +kernel
theorem dX4_init_30 : decode cX4_init 30 = .ok (.newarray .int, 2) := by decide +kernel
theorem dX4_init_32 : decode cX4_init 32 = .ok (.putfield 21, 3) := by decide +kernel
theorem dX4_init_35 : decode cX4_init 35 = .ok (.return_, 1) := by decide +kernel
theorem dX4_find_0 : decode cX4_find 0 = .ok (.aload_n 0, 1) := by decide +kernel
theorem dX4_find_1 : decode cX4_find 1 = .ok (.aload_n 2, 1) := by decide +kernel
theorem dX4_find_2 : decode cX4_find 2 = .ok (.putfield 24, 3) := by decide +kernel
theorem dX4_find_5 : decode cX4_find 5 = .ok (.aload_n 0, 1) := by decide +kernel
theorem dX4_find_6 : decode cX4_find 6 = .ok (.aload_n 3, 1) := by decide +kernel
theorem dX4_find_7 : decode cX4_find 7 = .ok (.putfield 28, 3) := by decide +kernel
theorem dX4_find_10 : decode cX4_find 10 = .ok (.aload_n 0, 1) := by decide +kernel
theorem dX4_find_11 : decode cX4_find 11 = .ok (.aload 4, 2) := by decide +kernel
theorem dX4_find_13 : decode cX4_find 13 = .ok (.putfield 32, 3) := by decide +kernel
theorem dX4_find_16 : decode cX4_find 16 = .ok (.iload_n 1, 1) := by decide +kernel
theorem dX4_find_17 : decode cX4_find 17 = .ok (.tableswitch 70 0 3 #[31, 41, 48, 59], 31) := by decide +kernel
theorem dX4_find_48 : decode cX4_find 48 = .ok (.aload_n 0, 1) := by decide +kernel
theorem dX4_find_49 : decode cX4_find 49 = .ok (.iconst 0, 1) := by decide +kernel
theorem dX4_find_50 : decode cX4_find 50 = .ok (.iconst 0, 1) := by decide +kernel
theorem dX4_find_51 : decode cX4_find 51 = .ok (.lconst 0, 1) := by decide +kernel
theorem dX4_find_52 : decode cX4_find 52 = .ok (.invokevirtual 36, 3) := by decide +kernel
theorem dX4_find_55 : decode cX4_find 55 = .ok (.goto 44, 3) := by decide +kernel
theorem dX4_find_58 : decode cX4_find 58 = .ok (.aload_n 0, 1) := by decide +kernel
theorem dX4_find_59 : decode cX4_find 59 = .ok (.invokevirtual 40, 3) := by decide +kernel
theorem dX4_find_62 : decode cX4_find 62 = .ok (.goto 37, 3) := by decide +kernel
theorem dX4_find_65 : decode cX4_find 65 = .ok (.aload_n 0, 1) := by decide +kernel
theorem dX4_find_66 : decode cX4_find 66 = .ok (.iconst 0, 1) := by decide +kernel
theorem dX4_find_67 : decode cX4_find 67 = .ok (.iconst 0, 1) := by decide +kernel
theorem dX4_find_68 : decode cX4_find 68 = .ok (.lconst 0, 1) := by decide +kernel
theorem dX4_find_69 : decode cX4_find 69 = .ok (.iconst 0, 1) := by decide +kernel
theorem dX4_find_70 : decode cX4_find 70 = .ok (.invokevirtual 43, 3) := by decide +kernel
theorem dX4_find_73 : decode cX4_find 73 = .ok (.goto 26, 3) := by decide +kernel
theorem dX4_find_76 : decode cX4_find 76 = .ok (.aload_n 0, 1) := by decide +kernel
theorem dX4_find_77 : decode cX4_find 77 = .ok (.iconst 0, 1) := by decide +kernel
theorem dX4_find_78 : decode cX4_find 78 = .ok (.iconst 0, 1) := by decide +kernel
theorem dX4_find_79 : decode cX4_find 79 = .ok (.iconst 0, 1) := by decide +kernel
theorem dX4_find_80 : decode cX4_find 80 = .ok (.lconst 0, 1) := by decide +kernel
theorem dX4_find_81 : decode cX4_find 81 = .ok (.invokevirtual 47, 3) := by decide +kernel
theorem dX4_find_84 : decode cX4_find 84 = .ok (.goto 15, 3) := by decide +kernel
theorem dX4_find_87 : decode cX4_find 87 = .ok (.aload_n 0, 1) := by decide +kernel
theorem dX4_find_88 : decode cX4_find 88 = .ok (.aload_n 2, 1) := by decide +kernel
theorem dX4_find_89 : decode cX4_find 89 = .ok (.invokevirtual 51, 3) := by decide +kernel
theorem dX4_find_92 : decode cX4_find 92 = .ok (.iconst 0, 1) := by decide +kernel
theorem dX4_find_93 : decode cX4_find 93 = .ok (.iconst 0, 1) := by decide +kernel
theorem dX4_find_94 : decode cX4_find 94 = .ok (.lconst 0, 1) := by decide +kernel
theorem dX4_find_95 : decode cX4_find 95 = .ok (.iconst 0, 1) := by decide +kernel
theorem dX4_find_96 : decode cX4_find 96 = .ok (.invokevirtual 57, 3) := by decide +kernel
theorem dX4_find_99 : decode cX4_find 99 = .ok (.return_, 1) := by decide +kernel
theorem dX4_costOfChoice_0 : decode cX4_costOfChoice 0 = .ok (.iconst 0, 1) := by decide +kernel
theorem dX4_costOfChoice_1 : decode cX4_costOfChoice 1 = .ok (.istore 5, 2) := by decide +kernel
theorem dX4_costOfChoice_3 : decode cX4_costOfChoice 3 = .ok (.iconst 0, 1) := by decide +kernel
theorem dX4_costOfChoice_4 : decode cX4_costOfChoice 4 = .ok (.istore 6, 2) := by decide +kernel
theorem dX4_costOfChoice_6 : decode cX4_costOfChoice 6 = .ok (.iload 6, 2) := by decide +kernel
theorem dX4_costOfChoice_8 : decode cX4_costOfChoice 8 = .ok (.iconst 4, 1) := by decide +kernel
theorem dX4_costOfChoice_9 : decode cX4_costOfChoice 9 = .ok (.if_icmp .ge 40, 3) := by decide +kernel
theorem dX4_costOfChoice_12 : decode cX4_costOfChoice 12 = .ok (.aload_n 1, 1) := by decide +kernel
theorem dX4_costOfChoice_13 : decode cX4_costOfChoice 13 = .ok (.iload 6, 2) := by decide +kernel
theorem dX4_costOfChoice_15 : decode cX4_costOfChoice 15 = .ok (.invokevirtual 61, 3) := by decide +kernel
theorem dX4_costOfChoice_18 : decode cX4_costOfChoice 18 = .ok (.ifCond .le 25, 3) := by decide +kernel
theorem dX4_costOfChoice_21 : decode cX4_costOfChoice 21 = .ok (.aload_n 0, 1) := by decide +kernel
theorem dX4_costOfChoice_22 : decode cX4_costOfChoice 22 = .ok (.getfield 9, 3) := by decide +kernel
theorem dX4_costOfChoice_25 : decode cX4_costOfChoice 25 = .ok (.iload 5, 2) := by decide +kernel
theorem dX4_costOfChoice_27 : decode cX4_costOfChoice 27 = .ok (.aload_n 1, 1) := by decide +kernel
theorem dX4_costOfChoice_28 : decode cX4_costOfChoice 28 = .ok (.iload 6, 2) := by decide +kernel
theorem dX4_costOfChoice_30 : decode cX4_costOfChoice 30 = .ok (.lload_n 3, 1) := by decide +kernel
theorem dX4_costOfChoice_31 : decode cX4_costOfChoice 31 = .ok (.iload 5, 2) := by decide +kernel
theorem dX4_costOfChoice_33 : decode cX4_costOfChoice 33 = .ok (.invokestatic 65, 3) := by decide +kernel
theorem dX4_costOfChoice_36 : decode cX4_costOfChoice 36 = .ok (.invokevirtual 71, 3) := by decide +kernel
theorem dX4_costOfChoice_39 : decode cX4_costOfChoice 39 = .ok (.iastore, 1) := by decide +kernel
theorem dX4_costOfChoice_40 : decode cX4_costOfChoice 40 = .ok (.iinc 5 1, 3) := by decide +kernel
theorem dX4_costOfChoice_43 : decode cX4_costOfChoice 43 = .ok (.iinc 6 1, 3) := by decide +kernel
theorem dX4_costOfChoice_46 : decode cX4_costOfChoice 46 = .ok (.goto (-40), 3) := by decide +kernel
theorem dX4_costOfChoice_49 : decode cX4_costOfChoice 49 = .ok (.aload_n 2, 1) := by decide +kernel
theorem dX4_costOfChoice_50 : decode cX4_costOfChoice 50 = .ok (.aload_n 0, 1) := by decide +kernel
theorem dX4_costOfChoice_51 : decode cX4_costOfChoice 51 = .ok (.getfield 9, 3) := by decide +kernel
theorem dX4_costOfChoice_54 : decode cX4_costOfChoice 54 = .ok (.iload 5, 2) := by decide +kernel
theorem dX4_costOfChoice_56 : decode cX4_costOfChoice 56 = .ok (.invokevirtual 74, 3) := by decide +kernel
theorem dX4_costOfChoice_59 : decode cX4_costOfChoice 59 = .ok (.ireturn, 1) := by decide +kernel
theorem dX4_findChoices_0 : decode cX4_findChoices 0 = .ok (.iload_n 1, 1) := by decide +kernel
theorem dX4_findChoices_1 : decode cX4_findChoices 1 = .ok (.iconst 4, 1) := by decide +kernel
theorem dX4_findChoices_2 : decode cX4_findChoices 2 = .ok (.if_icmp .lt 24, 3) := by decide +kernel
theorem dX4_findChoices_5 : decode cX4_findChoices 5 = .ok (.aload_n 0, 1) := by decide +kernel
theorem dX4_findChoices_6 : decode cX4_findChoices 6 = .ok (.getfield 32, 3) := by decide +kernel
theorem dX4_findChoices_9 : decode cX4_findChoices 9 = .ok (.aload_n 0, 1) := by decide +kernel
theorem dX4_findChoices_10 : decode cX4_findChoices 10 = .ok (.getfield 28, 3) := by decide +kernel
theorem dX4_findChoices_13 : decode cX4_findChoices 13 = .ok (.aload_n 0, 1) := by decide +kernel
theorem dX4_findChoices_14 : decode cX4_findChoices 14 = .ok (.getfield 9, 3) := by decide +kernel
theorem dX4_findChoices_17 : decode cX4_findChoices 17 = .ok (.iload_n 2, 1) := by decide +kernel
theorem dX4_findChoices_18 : decode cX4_findChoices 18 = .ok (.invokevirtual 74, 3) := by decide +kernel
theorem dX4_findChoices_21 : decode cX4_findChoices 21 = .ok (.lload_n 3, 1) := by decide +kernel
theorem dX4_findChoices_22 : decode cX4_findChoices 22 = .ok (.invokevirtual 80, 3) := by decide +kernel
theorem dX4_findChoices_25 : decode cX4_findChoices 25 = .ok (.return_, 1) := by decide +kernel
theorem dX4_findChoices_26 : decode cX4_findChoices 26 = .ok (.aload_n 0, 1) := by decide +kernel
theorem dX4_findChoices_27 : decode cX4_findChoices 27 = .ok (.getfield 24, 3) := by decide +kernel
theorem dX4_findChoices_30 : decode cX4_findChoices 30 = .ok (.iload_n 1, 1) := by decide +kernel
theorem dX4_findChoices_31 : decode cX4_findChoices 31 = .ok (.invokevirtual 61, 3) := by decide +kernel
theorem dX4_findChoices_34 : decode cX4_findChoices 34 = .ok (.istore 5, 2) := by decide +kernel
theorem dX4_findChoices_36 : decode cX4_findChoices 36 = .ok (.iload 5, 2) := by decide +kernel
theorem dX4_findChoices_38 : decode cX4_findChoices 38 = .ok (.ifCond .ne 12, 3) := by decide +kernel
theorem dX4_findChoices_41 : decode cX4_findChoices 41 = .ok (.aload_n 0, 1) := by decide +kernel
theorem dX4_findChoices_42 : decode cX4_findChoices 42 = .ok (.iload_n 1, 1) := by decide +kernel
theorem dX4_findChoices_43 : decode cX4_findChoices 43 = .ok (.iconst 1, 1) := by decide +kernel
theorem dX4_findChoices_44 : decode cX4_findChoices 44 = .ok (.iadd, 1) := by decide +kernel
theorem dX4_findChoices_45 : decode cX4_findChoices 45 = .ok (.iload_n 2, 1) := by decide +kernel
theorem dX4_findChoices_46 : decode cX4_findChoices 46 = .ok (.lload_n 3, 1) := by decide +kernel
theorem dX4_findChoices_47 : decode cX4_findChoices 47 = .ok (.invokevirtual 36, 3) := by decide +kernel
theorem dX4_findChoices_50 : decode cX4_findChoices 50 = .ok (.iconst 0, 1) := by decide +kernel
theorem dX4_findChoices_51 : decode cX4_findChoices 51 = .ok (.istore 6, 2) := by decide +kernel
theorem dX4_findChoices_53 : decode cX4_findChoices 53 = .ok (.iload 6, 2) := by decide +kernel
theorem dX4_findChoices_55 : decode cX4_findChoices 55 = .ok (.iload 5, 2) := by decide +kernel
theorem dX4_findChoices_57 : decode cX4_findChoices 57 = .ok (.if_icmp .ge 47, 3) := by decide +kernel
theorem dX4_findChoices_60 : decode cX4_findChoices 60 = .ok (.iload_n 2, 1) := by decide +kernel
theorem dX4_findChoices_61 : decode cX4_findChoices 61 = .ok (.iconst 4, 1) := by decide +kernel
theorem dX4_findChoices_62 : decode cX4_findChoices 62 = .ok (.if_icmp .ge 42, 3) := by decide +kernel
theorem dX4_findChoices_65 : decode cX4_findChoices 65 = .ok (.aload_n 0, 1) := by decide +kernel
theorem dX4_findChoices_66 : decode cX4_findChoices 66 = .ok (.getfield 9, 3) := by decide +kernel
theorem dX4_findChoices_69 : decode cX4_findChoices 69 = .ok (.iload_n 2, 1) := by decide +kernel
theorem dX4_findChoices_70 : decode cX4_findChoices 70 = .ok (.aload_n 0, 1) := by decide +kernel
theorem dX4_findChoices_71 : decode cX4_findChoices 71 = .ok (.getfield 24, 3) := by decide +kernel
theorem dX4_findChoices_74 : decode cX4_findChoices 74 = .ok (.iload_n 1, 1) := by decide +kernel
theorem dX4_findChoices_75 : decode cX4_findChoices 75 = .ok (.iload 6, 2) := by decide +kernel
theorem dX4_findChoices_77 : decode cX4_findChoices 77 = .ok (.invokevirtual 71, 3) := by decide +kernel
theorem dX4_findChoices_80 : decode cX4_findChoices 80 = .ok (.iastore, 1) := by decide +kernel
theorem dX4_findChoices_81 : decode cX4_findChoices 81 = .ok (.aload_n 0, 1) := by decide +kernel
theorem dX4_findChoices_82 : decode cX4_findChoices 82 = .ok (.iload_n 1, 1) := by decide +kernel
theorem dX4_findChoices_83 : decode cX4_findChoices 83 = .ok (.iconst 1, 1) := by decide +kernel
theorem dX4_findChoices_84 : decode cX4_findChoices 84 = .ok (.iadd, 1) := by decide +kernel
theorem dX4_findChoices_85 : decode cX4_findChoices 85 = .ok (.iload_n 2, 1) := by decide +kernel
theorem dX4_findChoices_86 : decode cX4_findChoices 86 = .ok (.iconst 1, 1) := by decide +kernel
theorem dX4_findChoices_87 : decode cX4_findChoices 87 = .ok (.iadd, 1) := by decide +kernel
theorem dX4_findChoices_88 : decode cX4_findChoices 88 = .ok (.lload_n 3, 1) := by decide +kernel
theorem dX4_findChoices_89 : decode cX4_findChoices 89 = .ok (.iload_n 2, 1) := by decide +kernel
theorem dX4_findChoices_90 : decode cX4_findChoices 90 = .ok (.iload 6, 2) := by decide +kernel
theorem dX4_findChoices_92 : decode cX4_findChoices 92 = .ok (.invokestatic 86, 3) := by decide +kernel
theorem dX4_findChoices_95 : decode cX4_findChoices 95 = .ok (.invokevirtual 36, 3) := by decide +kernel
theorem dX4_findChoices_98 : decode cX4_findChoices 98 = .ok (.iinc 6 1, 3) := by decide +kernel
theorem dX4_findChoices_101 : decode cX4_findChoices 101 = .ok (.goto (-48), 3) := by decide +kernel
theorem dX4_findChoices_104 : decode cX4_findChoices 104 = .ok (.return_, 1) := by decide +kernel
theorem dX4_findTrees_0 : decode cX4_findTrees 0 = .ok (.aload_n 0, 1) := by decide +kernel
theorem dX4_findTrees_1 : decode cX4_findTrees 1 = .ok (.iconst 0, 1) := by decide +kernel
theorem dX4_findTrees_2 : decode cX4_findTrees 2 = .ok (.putfield 90, 3) := by decide +kernel
theorem dX4_findTrees_5 : decode cX4_findTrees 5 = .ok (.iconst 0, 1) := by decide +kernel
theorem dX4_findTrees_6 : decode cX4_findTrees 6 = .ok (.istore_n 1, 1) := by decide +kernel
theorem dX4_findTrees_7 : decode cX4_findTrees 7 = .ok (.iload_n 1, 1) := by decide +kernel
theorem dX4_findTrees_8 : decode cX4_findTrees 8 = .ok (.bipush 7, 2) := by decide +kernel
theorem dX4_findTrees_10 : decode cX4_findTrees 10 = .ok (.if_icmp .ge 88, 3) := by decide +kernel
theorem dX4_findTrees_13 : decode cX4_findTrees 13 = .ok (.iload_n 1, 1) := by decide +kernel
theorem dX4_findTrees_14 : decode cX4_findTrees 14 = .ok (.iconst 1, 1) := by decide +kernel
theorem dX4_findTrees_15 : decode cX4_findTrees 15 = .ok (.iadd, 1) := by decide +kernel
theorem dX4_findTrees_16 : decode cX4_findTrees 16 = .ok (.istore_n 2, 1) := by decide +kernel
theorem dX4_findTrees_17 : decode cX4_findTrees 17 = .ok (.iload_n 2, 1) := by decide +kernel
theorem dX4_findTrees_18 : decode cX4_findTrees 18 = .ok (.bipush 7, 2) := by decide +kernel
theorem dX4_findTrees_20 : decode cX4_findTrees 20 = .ok (.if_icmp .ge 72, 3) := by decide +kernel
theorem dX4_findTrees_23 : decode cX4_findTrees 23 = .ok (.aload_n 0, 1) := by decide +kernel
theorem dX4_findTrees_24 : decode cX4_findTrees 24 = .ok (.getfield 24, 3) := by decide +kernel
theorem dX4_findTrees_27 : decode cX4_findTrees 27 = .ok (.iload_n 1, 1) := by decide +kernel
theorem dX4_findTrees_28 : decode cX4_findTrees 28 = .ok (.iload_n 2, 1) := by decide +kernel
theorem dX4_findTrees_29 : decode cX4_findTrees 29 = .ok (.invokevirtual 94, 3) := by decide +kernel
theorem dX4_findTrees_32 : decode cX4_findTrees 32 = .ok (.istore_n 3, 1) := by decide +kernel
theorem dX4_findTrees_33 : decode cX4_findTrees 33 = .ok (.iload_n 3, 1) := by decide +kernel
theorem dX4_findTrees_34 : decode cX4_findTrees 34 = .ok (.ifCond .le 52, 3) := by decide +kernel
theorem dX4_findTrees_37 : decode cX4_findTrees 37 = .ok (.aload_n 0, 1) := by decide +kernel
theorem dX4_findTrees_38 : decode cX4_findTrees 38 = .ok (.getfield 90, 3) := by decide +kernel
theorem dX4_findTrees_41 : decode cX4_findTrees 41 = .ok (.bipush 12, 2) := by decide +kernel
theorem dX4_findTrees_43 : decode cX4_findTrees 43 = .ok (.if_icmp .ge 43, 3) := by decide +kernel
theorem dX4_findTrees_46 : decode cX4_findTrees 46 = .ok (.aload_n 0, 1) := by decide +kernel
theorem dX4_findTrees_47 : decode cX4_findTrees 47 = .ok (.getfield 15, 3) := by decide +kernel
theorem dX4_findTrees_50 : decode cX4_findTrees 50 = .ok (.aload_n 0, 1) := by decide +kernel
theorem dX4_findTrees_51 : decode cX4_findTrees 51 = .ok (.getfield 90, 3) := by decide +kernel
theorem dX4_findTrees_54 : decode cX4_findTrees 54 = .ok (.iload_n 1, 1) := by decide +kernel
theorem dX4_findTrees_55 : decode cX4_findTrees 55 = .ok (.iastore, 1) := by decide +kernel
theorem dX4_findTrees_56 : decode cX4_findTrees 56 = .ok (.aload_n 0, 1) := by decide +kernel
theorem dX4_findTrees_57 : decode cX4_findTrees 57 = .ok (.getfield 18, 3) := by decide +kernel
theorem dX4_findTrees_60 : decode cX4_findTrees 60 = .ok (.aload_n 0, 1) := by decide +kernel
theorem dX4_findTrees_61 : decode cX4_findTrees 61 = .ok (.getfield 90, 3) := by decide +kernel
theorem dX4_findTrees_64 : decode cX4_findTrees 64 = .ok (.iload_n 2, 1) := by decide +kernel
theorem dX4_findTrees_65 : decode cX4_findTrees 65 = .ok (.iastore, 1) := by decide +kernel
theorem dX4_findTrees_66 : decode cX4_findTrees 66 = .ok (.aload_n 0, 1) := by decide +kernel
theorem dX4_findTrees_67 : decode cX4_findTrees 67 = .ok (.getfield 21, 3) := by decide +kernel
theorem dX4_findTrees_70 : decode cX4_findTrees 70 = .ok (.aload_n 0, 1) := by decide +kernel
theorem dX4_findTrees_71 : decode cX4_findTrees 71 = .ok (.getfield 90, 3) := by decide +kernel
theorem dX4_findTrees_74 : decode cX4_findTrees 74 = .ok (.iload_n 3, 1) := by decide +kernel
theorem dX4_findTrees_75 : decode cX4_findTrees 75 = .ok (.iastore, 1) := by decide +kernel
theorem dX4_findTrees_76 : decode cX4_findTrees 76 = .ok (.aload_n 0, 1) := by decide +kernel
theorem dX4_findTrees_77 : decode cX4_findTrees 77 = .ok (.dup, 1) := by decide +kernel
theorem dX4_findTrees_78 : decode cX4_findTrees 78 = .ok (.getfield 90, 3) := by decide +kernel
theorem dX4_findTrees_81 : decode cX4_findTrees 81 = .ok (.iconst 1, 1) := by decide +kernel
theorem dX4_findTrees_82 : decode cX4_findTrees 82 = .ok (.iadd, 1) := by decide +kernel
theorem dX4_findTrees_83 : decode cX4_findTrees 83 = .ok (.putfield 90, 3) := by decide +kernel
theorem dX4_findTrees_86 : decode cX4_findTrees 86 = .ok (.iinc 2 1, 3) := by decide +kernel
theorem dX4_findTrees_89 : decode cX4_findTrees 89 = .ok (.goto (-72), 3) := by decide +kernel
theorem dX4_findTrees_92 : decode cX4_findTrees 92 = .ok (.iinc 1 1, 3) := by decide +kernel
theorem dX4_findTrees_95 : decode cX4_findTrees 95 = .ok (.goto (-88), 3) := by decide +kernel
theorem dX4_findTrees_98 : decode cX4_findTrees 98 = .ok (.aload_n 0, 1) := by decide +kernel
theorem dX4_findTrees_99 : decode cX4_findTrees 99 = .ok (.iconst 0, 1) := by decide +kernel
theorem dX4_findTrees_100 : decode cX4_findTrees 100 = .ok (.aload_n 0, 1) := by decide +kernel
theorem dX4_findTrees_101 : decode cX4_findTrees 101 = .ok (.getfield 24, 3) := by decide +kernel
theorem dX4_findTrees_104 : decode cX4_findTrees 104 = .ok (.invokevirtual 96, 3) := by decide +kernel
theorem dX4_findTrees_107 : decode cX4_findTrees 107 = .ok (.invokestatic 99, 3) := by decide +kernel
theorem dX4_findTrees_110 : decode cX4_findTrees 110 = .ok (.iconst 1, 1) := by decide +kernel
theorem dX4_findTrees_111 : decode cX4_findTrees 111 = .ok (.isub, 1) := by decide +kernel
theorem dX4_findTrees_112 : decode cX4_findTrees 112 = .ok (.invokestatic 104, 3) := by decide +kernel
theorem dX4_findTrees_115 : decode cX4_findTrees 115 = .ok (.putfield 109, 3) := by decide +kernel
theorem dX4_findTrees_118 : decode cX4_findTrees 118 = .ok (.iconst 0, 1) := by decide +kernel
theorem dX4_findTrees_119 : decode cX4_findTrees 119 = .ok (.istore_n 1, 1) := by decide +kernel
theorem dX4_findTrees_120 : decode cX4_findTrees 120 = .ok (.iconst 0, 1) := by decide +kernel
theorem dX4_findTrees_121 : decode cX4_findTrees 121 = .ok (.istore_n 2, 1) := by decide +kernel
theorem dX4_findTrees_122 : decode cX4_findTrees 122 = .ok (.iload_n 2, 1) := by decide +kernel
theorem dX4_findTrees_123 : decode cX4_findTrees 123 = .ok (.bipush 7, 2) := by decide +kernel
theorem dX4_findTrees_125 : decode cX4_findTrees 125 = .ok (.if_icmp .ge 16, 3) := by decide +kernel
theorem dX4_findTrees_128 : decode cX4_findTrees 128 = .ok (.iload_n 1, 1) := by decide +kernel
theorem dX4_findTrees_129 : decode cX4_findTrees 129 = .ok (.iload_n 2, 1) := by decide +kernel
theorem dX4_findTrees_130 : decode cX4_findTrees 130 = .ok (.iload_n 2, 1) := by decide +kernel
theorem dX4_findTrees_131 : decode cX4_findTrees 131 = .ok (.invokestatic 112, 3) := by decide +kernel
theorem dX4_findTrees_134 : decode cX4_findTrees 134 = .ok (.istore_n 1, 1) := by decide +kernel
theorem dX4_findTrees_135 : decode cX4_findTrees 135 = .ok (.iinc 2 1, 3) := by decide +kernel
theorem dX4_findTrees_138 : decode cX4_findTrees 138 = .ok (.goto (-16), 3) := by decide +kernel
theorem dX4_findTrees_141 : decode cX4_findTrees 141 = .ok (.aload_n 0, 1) := by decide +kernel
theorem dX4_findTrees_142 : decode cX4_findTrees 142 = .ok (.iconst 0, 1) := by decide +kernel
theorem dX4_findTrees_143 : decode cX4_findTrees 143 = .ok (.iconst 0, 1) := by decide +kernel
theorem dX4_findTrees_144 : decode cX4_findTrees 144 = .ok (.iconst 0, 1) := by decide +kernel
theorem dX4_findTrees_145 : decode cX4_findTrees 145 = .ok (.lconst 0, 1) := by decide +kernel
theorem dX4_findTrees_146 : decode cX4_findTrees 146 = .ok (.iload_n 1, 1) := by decide +kernel
theorem dX4_findTrees_147 : decode cX4_findTrees 147 = .ok (.invokevirtual 116, 3) := by decide +kernel
theorem dX4_findTrees_150 : decode cX4_findTrees 150 = .ok (.return_, 1) := by decide +kernel
theorem dX4_growTree_0 : decode cX4_growTree 0 = .ok (.iload_n 2, 1) := by decide +kernel
theorem dX4_growTree_1 : decode cX4_growTree 1 = .ok (.aload_n 0, 1) := by decide +kernel
theorem dX4_growTree_2 : decode cX4_growTree 2 = .ok (.getfield 109, 3) := by decide +kernel
theorem dX4_growTree_5 : decode cX4_growTree 5 = .ok (.if_icmp .ne 14, 3) := by decide +kernel
theorem dX4_growTree_8 : decode cX4_growTree 8 = .ok (.aload_n 0, 1) := by decide +kernel
theorem dX4_growTree_9 : decode cX4_growTree 9 = .ok (.getfield 32, 3) := by decide +kernel
theorem dX4_growTree_12 : decode cX4_growTree 12 = .ok (.iload_n 3, 1) := by decide +kernel
theorem dX4_growTree_13 : decode cX4_growTree 13 = .ok (.lload 4, 2) := by decide +kernel
theorem dX4_growTree_15 : decode cX4_growTree 15 = .ok (.invokevirtual 80, 3) := by decide +kernel
theorem dX4_growTree_18 : decode cX4_growTree 18 = .ok (.return_, 1) := by decide +kernel
theorem dX4_growTree_19 : decode cX4_growTree 19 = .ok (.iload_n 1, 1) := by decide +kernel
theorem dX4_growTree_20 : decode cX4_growTree 20 = .ok (.aload_n 0, 1) := by decide +kernel
theorem dX4_growTree_21 : decode cX4_growTree 21 = .ok (.getfield 90, 3) := by decide +kernel
theorem dX4_growTree_24 : decode cX4_growTree 24 = .ok (.if_icmp .ge 18, 3) := by decide +kernel
theorem dX4_growTree_27 : decode cX4_growTree 27 = .ok (.aload_n 0, 1) := by decide +kernel
theorem dX4_growTree_28 : decode cX4_growTree 28 = .ok (.getfield 90, 3) := by decide +kernel
theorem dX4_growTree_31 : decode cX4_growTree 31 = .ok (.iload_n 1, 1) := by decide +kernel
theorem dX4_growTree_32 : decode cX4_growTree 32 = .ok (.isub, 1) := by decide +kernel
theorem dX4_growTree_33 : decode cX4_growTree 33 = .ok (.aload_n 0, 1) := by decide +kernel
theorem dX4_growTree_34 : decode cX4_growTree 34 = .ok (.getfield 109, 3) := by decide +kernel
theorem dX4_growTree_37 : decode cX4_growTree 37 = .ok (.iload_n 2, 1) := by decide +kernel
theorem dX4_growTree_38 : decode cX4_growTree 38 = .ok (.isub, 1) := by decide +kernel
theorem dX4_growTree_39 : decode cX4_growTree 39 = .ok (.if_icmp .ge 4, 3) := by decide +kernel
theorem dX4_growTree_42 : decode cX4_growTree 42 = .ok (.return_, 1) := by decide +kernel
theorem dX4_growTree_43 : decode cX4_growTree 43 = .ok (.iload 6, 2) := by decide +kernel
theorem dX4_growTree_45 : decode cX4_growTree 45 = .ok (.aload_n 0, 1) := by decide +kernel
theorem dX4_growTree_46 : decode cX4_growTree 46 = .ok (.getfield 15, 3) := by decide +kernel
theorem dX4_growTree_49 : decode cX4_growTree 49 = .ok (.iload_n 1, 1) := by decide +kernel
theorem dX4_growTree_50 : decode cX4_growTree 50 = .ok (.iaload, 1) := by decide +kernel
theorem dX4_growTree_51 : decode cX4_growTree 51 = .ok (.invokestatic 119, 3) := by decide +kernel
theorem dX4_growTree_54 : decode cX4_growTree 54 = .ok (.istore 7, 2) := by decide +kernel
theorem dX4_growTree_56 : decode cX4_growTree 56 = .ok (.iload 6, 2) := by decide +kernel
theorem dX4_growTree_58 : decode cX4_growTree 58 = .ok (.aload_n 0, 1) := by decide +kernel
theorem dX4_growTree_59 : decode cX4_growTree 59 = .ok (.getfield 18, 3) := by decide +kernel
theorem dX4_growTree_62 : decode cX4_growTree 62 = .ok (.iload_n 1, 1) := by decide +kernel
theorem dX4_growTree_63 : decode cX4_growTree 63 = .ok (.iaload, 1) := by decide +kernel
theorem dX4_growTree_64 : decode cX4_growTree 64 = .ok (.invokestatic 119, 3) := by decide +kernel
theorem dX4_growTree_67 : decode cX4_growTree 67 = .ok (.istore 8, 2) := by decide +kernel
theorem dX4_growTree_69 : decode cX4_growTree 69 = .ok (.iload 7, 2) := by decide +kernel
theorem dX4_growTree_71 : decode cX4_growTree 71 = .ok (.iload 8, 2) := by decide +kernel
theorem dX4_growTree_73 : decode cX4_growTree 73 = .ok (.if_icmp .eq 37, 3) := by decide +kernel
theorem dX4_growTree_76 : decode cX4_growTree 76 = .ok (.aload_n 0, 1) := by decide +kernel
theorem dX4_growTree_77 : decode cX4_growTree 77 = .ok (.iload_n 1, 1) := by decide +kernel
theorem dX4_growTree_78 : decode cX4_growTree 78 = .ok (.iconst 1, 1) := by decide +kernel
theorem dX4_growTree_79 : decode cX4_growTree 79 = .ok (.iadd, 1) := by decide +kernel
theorem dX4_growTree_80 : decode cX4_growTree 80 = .ok (.iload_n 2, 1) := by decide +kernel
theorem dX4_growTree_81 : decode cX4_growTree 81 = .ok (.iconst 1, 1) := by decide +kernel
theorem dX4_growTree_82 : decode cX4_growTree 82 = .ok (.iadd, 1) := by decide +kernel
theorem dX4_growTree_83 : decode cX4_growTree 83 = .ok (.iload_n 3, 1) := by decide +kernel
theorem dX4_growTree_84 : decode cX4_growTree 84 = .ok (.aload_n 0, 1) := by decide +kernel
theorem dX4_growTree_85 : decode cX4_growTree 85 = .ok (.getfield 21, 3) := by decide +kernel
theorem dX4_growTree_88 : decode cX4_growTree 88 = .ok (.iload_n 1, 1) := by decide +kernel
theorem dX4_growTree_89 : decode cX4_growTree 89 = .ok (.iaload, 1) := by decide +kernel
theorem dX4_growTree_90 : decode cX4_growTree 90 = .ok (.iadd, 1) := by decide +kernel
theorem dX4_growTree_91 : decode cX4_growTree 91 = .ok (.lload 4, 2) := by decide +kernel
theorem dX4_growTree_93 : decode cX4_growTree 93 = .ok (.iload_n 2, 1) := by decide +kernel
theorem dX4_growTree_94 : decode cX4_growTree 94 = .ok (.iload_n 1, 1) := by decide +kernel
theorem dX4_growTree_95 : decode cX4_growTree 95 = .ok (.invokestatic 86, 3) := by decide +kernel
theorem dX4_growTree_98 : decode cX4_growTree 98 = .ok (.iload 6, 2) := by decide +kernel
theorem dX4_growTree_100 : decode cX4_growTree 100 = .ok (.iload 7, 2) := by decide +kernel
theorem dX4_growTree_102 : decode cX4_growTree 102 = .ok (.iload 8, 2) := by decide +kernel
theorem dX4_growTree_104 : decode cX4_growTree 104 = .ok (.invokestatic 122, 3) := by decide +kernel
theorem dX4_growTree_107 : decode cX4_growTree 107 = .ok (.invokevirtual 116, 3) := by decide +kernel
theorem dX4_growTree_110 : decode cX4_growTree 110 = .ok (.aload_n 0, 1) := by decide +kernel
theorem dX4_growTree_111 : decode cX4_growTree 111 = .ok (.iload_n 1, 1) := by decide +kernel
theorem dX4_growTree_112 : decode cX4_growTree 112 = .ok (.iconst 1, 1) := by decide +kernel
theorem dX4_growTree_113 : decode cX4_growTree 113 = .ok (.iadd, 1) := by decide +kernel
theorem dX4_growTree_114 : decode cX4_growTree 114 = .ok (.iload_n 2, 1) := by decide +kernel
theorem dX4_growTree_115 : decode cX4_growTree 115 = .ok (.iload_n 3, 1) := by decide +kernel
theorem dX4_growTree_116 : decode cX4_growTree 116 = .ok (.lload 4, 2) := by decide +kernel
theorem dX4_growTree_118 : decode cX4_growTree 118 = .ok (.iload 6, 2) := by decide +kernel
theorem dX4_growTree_120 : decode cX4_growTree 120 = .ok (.invokevirtual 116, 3) := by decide +kernel
theorem dX4_growTree_123 : decode cX4_growTree 123 = .ok (.return_, 1) := by decide +kernel
theorem dX4_groupOf_0 : decode cX4_groupOf 0 = .ok (.iload_n 0, 1) := by decide +kernel
theorem dX4_groupOf_1 : decode cX4_groupOf 1 = .ok (.iconst 3, 1) := by decide +kernel
theorem dX4_groupOf_2 : decode cX4_groupOf 2 = .ok (.iload_n 1, 1) := by decide +kernel
theorem dX4_groupOf_3 : decode cX4_groupOf 3 = .ok (.imul, 1) := by decide +kernel
theorem dX4_groupOf_4 : decode cX4_groupOf 4 = .ok (.iushr, 1) := by decide +kernel
theorem dX4_groupOf_5 : decode cX4_groupOf 5 = .ok (.bipush 7, 2) := by decide +kernel
theorem dX4_groupOf_7 : decode cX4_groupOf 7 = .ok (.iand, 1) := by decide +kernel
theorem dX4_groupOf_8 : decode cX4_groupOf 8 = .ok (.ireturn, 1) := by decide +kernel
theorem dX4_regrouped_0 : decode cX4_regrouped 0 = .ok (.iload_n 0, 1) := by decide +kernel
theorem dX4_regrouped_1 : decode cX4_regrouped 1 = .ok (.bipush 7, 2) := by decide +kernel
theorem dX4_regrouped_3 : decode cX4_regrouped 3 = .ok (.iconst 3, 1) := by decide +kernel
theorem dX4_regrouped_4 : decode cX4_regrouped 4 = .ok (.iload_n 1, 1) := by decide +kernel
theorem dX4_regrouped_5 : decode cX4_regrouped 5 = .ok (.imul, 1) := by decide +kernel
theorem dX4_regrouped_6 : decode cX4_regrouped 6 = .ok (.ishl, 1) := by decide +kernel
theorem dX4_regrouped_7 : decode cX4_regrouped 7 = .ok (.iconst (-1), 1) := by decide +kernel
theorem dX4_regrouped_8 : decode cX4_regrouped 8 = .ok (.ixor, 1) := by decide +kernel
theorem dX4_regrouped_9 : decode cX4_regrouped 9 = .ok (.iand, 1) := by decide +kernel
theorem dX4_regrouped_10 : decode cX4_regrouped 10 = .ok (.iload_n 2, 1) := by decide +kernel
theorem dX4_regrouped_11 : decode cX4_regrouped 11 = .ok (.iconst 3, 1) := by decide +kernel
theorem dX4_regrouped_12 : decode cX4_regrouped 12 = .ok (.iload_n 1, 1) := by decide +kernel
theorem dX4_regrouped_13 : decode cX4_regrouped 13 = .ok (.imul, 1) := by decide +kernel
theorem dX4_regrouped_14 : decode cX4_regrouped 14 = .ok (.ishl, 1) := by decide +kernel
theorem dX4_regrouped_15 : decode cX4_regrouped 15 = .ok (.ior, 1) := by decide +kernel
theorem dX4_regrouped_16 : decode cX4_regrouped 16 = .ok (.ireturn, 1) := by decide +kernel
theorem dX4_merged_0 : decode cX4_merged 0 = .ok (.iload_n 0, 1) := by decide +kernel
theorem dX4_merged_1 : decode cX4_merged 1 = .ok (.istore_n 3, 1) := by decide +kernel
theorem dX4_merged_2 : decode cX4_merged 2 = .ok (.iconst 0, 1) := by decide +kernel
theorem dX4_merged_3 : decode cX4_merged 3 = .ok (.istore 4, 2) := by decide +kernel
theorem dX4_merged_5 : decode cX4_merged 5 = .ok (.iload 4, 2) := by decide +kernel
theorem dX4_merged_7 : decode cX4_merged 7 = .ok (.bipush 7, 2) := by decide +kernel
theorem dX4_merged_9 : decode cX4_merged 9 = .ok (.if_icmp .ge 27, 3) := by decide +kernel
theorem dX4_merged_12 : decode cX4_merged 12 = .ok (.iload_n 0, 1) := by decide +kernel
theorem dX4_merged_13 : decode cX4_merged 13 = .ok (.iload 4, 2) := by decide +kernel
theorem dX4_merged_15 : decode cX4_merged 15 = .ok (.invokestatic 119, 3) := by decide +kernel
theorem dX4_merged_18 : decode cX4_merged 18 = .ok (.iload_n 2, 1) := by decide +kernel
theorem dX4_merged_19 : decode cX4_merged 19 = .ok (.if_icmp .ne 11, 3) := by decide +kernel
theorem dX4_merged_22 : decode cX4_merged 22 = .ok (.iload_n 3, 1) := by decide +kernel
theorem dX4_merged_23 : decode cX4_merged 23 = .ok (.iload 4, 2) := by decide +kernel
theorem dX4_merged_25 : decode cX4_merged 25 = .ok (.iload_n 1, 1) := by decide +kernel
theorem dX4_merged_26 : decode cX4_merged 26 = .ok (.invokestatic 112, 3) := by decide +kernel
theorem dX4_merged_29 : decode cX4_merged 29 = .ok (.istore_n 3, 1) := by decide +kernel
theorem dX4_merged_30 : decode cX4_merged 30 = .ok (.iinc 4 1, 3) := by decide +kernel
theorem dX4_merged_33 : decode cX4_merged 33 = .ok (.goto (-28), 3) := by decide +kernel
theorem dX4_merged_36 : decode cX4_merged 36 = .ok (.iload_n 3, 1) := by decide +kernel
theorem dX4_merged_37 : decode cX4_merged 37 = .ok (.ireturn, 1) := by decide +kernel
theorem dX4_findPairings_0 : decode cX4_findPairings 0 = .ok (.iload_n 1, 1) := by decide +kernel
theorem dX4_findPairings_1 : decode cX4_findPairings 1 = .ok (.aload_n 0, 1) := by decide +kernel
theorem dX4_findPairings_2 : decode cX4_findPairings 2 = .ok (.getfield 24, 3) := by decide +kernel
theorem dX4_findPairings_5 : decode cX4_findPairings 5 = .ok (.invokevirtual 125, 3) := by decide +kernel
theorem dX4_findPairings_8 : decode cX4_findPairings 8 = .ok (.if_icmp .lt 13, 3) := by decide +kernel
theorem dX4_findPairings_11 : decode cX4_findPairings 11 = .ok (.aload_n 0, 1) := by decide +kernel
theorem dX4_findPairings_12 : decode cX4_findPairings 12 = .ok (.getfield 32, 3) := by decide +kernel
theorem dX4_findPairings_15 : decode cX4_findPairings 15 = .ok (.iload_n 2, 1) := by decide +kernel
theorem dX4_findPairings_16 : decode cX4_findPairings 16 = .ok (.lload_n 3, 1) := by decide +kernel
theorem dX4_findPairings_17 : decode cX4_findPairings 17 = .ok (.invokevirtual 80, 3) := by decide +kernel
theorem dX4_findPairings_20 : decode cX4_findPairings 20 = .ok (.return_, 1) := by decide +kernel
theorem dX4_findPairings_21 : decode cX4_findPairings 21 = .ok (.iconst 0, 1) := by decide +kernel
theorem dX4_findPairings_22 : decode cX4_findPairings 22 = .ok (.istore 6, 2) := by decide +kernel
theorem dX4_findPairings_24 : decode cX4_findPairings 24 = .ok (.iload 6, 2) := by decide +kernel
theorem dX4_findPairings_26 : decode cX4_findPairings 26 = .ok (.aload_n 0, 1) := by decide +kernel
theorem dX4_findPairings_27 : decode cX4_findPairings 27 = .ok (.getfield 24, 3) := by decide +kernel
theorem dX4_findPairings_30 : decode cX4_findPairings 30 = .ok (.invokevirtual 125, 3) := by decide +kernel
theorem dX4_findPairings_33 : decode cX4_findPairings 33 = .ok (.if_icmp .ge 52, 3) := by decide +kernel
theorem dX4_findPairings_36 : decode cX4_findPairings 36 = .ok (.iload 5, 2) := by decide +kernel
theorem dX4_findPairings_38 : decode cX4_findPairings 38 = .ok (.iconst 1, 1) := by decide +kernel
theorem dX4_findPairings_39 : decode cX4_findPairings 39 = .ok (.iload 6, 2) := by decide +kernel
theorem dX4_findPairings_41 : decode cX4_findPairings 41 = .ok (.ishl, 1) := by decide +kernel
theorem dX4_findPairings_42 : decode cX4_findPairings 42 = .ok (.iand, 1) := by decide +kernel
theorem dX4_findPairings_43 : decode cX4_findPairings 43 = .ok (.ifCond .ne 36, 3) := by decide +kernel
theorem dX4_findPairings_46 : decode cX4_findPairings 46 = .ok (.aload_n 0, 1) := by decide +kernel
theorem dX4_findPairings_47 : decode cX4_findPairings 47 = .ok (.iload_n 1, 1) := by decide +kernel
theorem dX4_findPairings_48 : decode cX4_findPairings 48 = .ok (.iconst 1, 1) := by decide +kernel
theorem dX4_findPairings_49 : decode cX4_findPairings 49 = .ok (.iadd, 1) := by decide +kernel
theorem dX4_findPairings_50 : decode cX4_findPairings 50 = .ok (.iload_n 2, 1) := by decide +kernel
theorem dX4_findPairings_51 : decode cX4_findPairings 51 = .ok (.aload_n 0, 1) := by decide +kernel
theorem dX4_findPairings_52 : decode cX4_findPairings 52 = .ok (.getfield 24, 3) := by decide +kernel
theorem dX4_findPairings_55 : decode cX4_findPairings 55 = .ok (.iload_n 1, 1) := by decide +kernel
theorem dX4_findPairings_56 : decode cX4_findPairings 56 = .ok (.iload 6, 2) := by decide +kernel
theorem dX4_findPairings_58 : decode cX4_findPairings 58 = .ok (.invokevirtual 128, 3) := by decide +kernel
theorem dX4_findPairings_61 : decode cX4_findPairings 61 = .ok (.iadd, 1) := by decide +kernel
theorem dX4_findPairings_62 : decode cX4_findPairings 62 = .ok (.lload_n 3, 1) := by decide +kernel
theorem dX4_findPairings_63 : decode cX4_findPairings 63 = .ok (.iload_n 1, 1) := by decide +kernel
theorem dX4_findPairings_64 : decode cX4_findPairings 64 = .ok (.iload 6, 2) := by decide +kernel
theorem dX4_findPairings_66 : decode cX4_findPairings 66 = .ok (.invokestatic 86, 3) := by decide +kernel
theorem dX4_findPairings_69 : decode cX4_findPairings 69 = .ok (.iload 5, 2) := by decide +kernel
theorem dX4_findPairings_71 : decode cX4_findPairings 71 = .ok (.iconst 1, 1) := by decide +kernel
theorem dX4_findPairings_72 : decode cX4_findPairings 72 = .ok (.iload 6, 2) := by decide +kernel
theorem dX4_findPairings_74 : decode cX4_findPairings 74 = .ok (.ishl, 1) := by decide +kernel
theorem dX4_findPairings_75 : decode cX4_findPairings 75 = .ok (.ior, 1) := by decide +kernel
theorem dX4_findPairings_76 : decode cX4_findPairings 76 = .ok (.invokevirtual 43, 3) := by decide +kernel
theorem dX4_findPairings_79 : decode cX4_findPairings 79 = .ok (.iinc 6 1, 3) := by decide +kernel
theorem dX4_findPairings_82 : decode cX4_findPairings 82 = .ok (.goto (-58), 3) := by decide +kernel
theorem dX4_findPairings_85 : decode cX4_findPairings 85 = .ok (.return_, 1) := by decide +kernel
theorem dX4_findSubsets_0 : decode cX4_findSubsets 0 = .ok (.aload_n 0, 1) := by decide +kernel
theorem dX4_findSubsets_1 : decode cX4_findSubsets 1 = .ok (.getfield 32, 3) := by decide +kernel
theorem dX4_findSubsets_4 : decode cX4_findSubsets 4 = .ok (.iload_n 3, 1) := by decide +kernel
theorem dX4_findSubsets_5 : decode cX4_findSubsets 5 = .ok (.lload 4, 2) := by decide +kernel
theorem dX4_findSubsets_7 : decode cX4_findSubsets 7 = .ok (.invokevirtual 80, 3) := by decide +kernel
theorem dX4_findSubsets_10 : decode cX4_findSubsets 10 = .ok (.aload_n 0, 1) := by decide +kernel
theorem dX4_findSubsets_11 : decode cX4_findSubsets 11 = .ok (.getfield 24, 3) := by decide +kernel
theorem dX4_findSubsets_14 : decode cX4_findSubsets 14 = .ok (.invokevirtual 131, 3) := by decide +kernel
theorem dX4_findSubsets_17 : decode cX4_findSubsets 17 = .ok (.istore 6, 2) := by decide +kernel
theorem dX4_findSubsets_19 : decode cX4_findSubsets 19 = .ok (.iload_n 1, 1) := by decide +kernel
theorem dX4_findSubsets_20 : decode cX4_findSubsets 20 = .ok (.istore 7, 2) := by decide +kernel
theorem dX4_findSubsets_22 : decode cX4_findSubsets 22 = .ok (.iload 7, 2) := by decide +kernel
theorem dX4_findSubsets_24 : decode cX4_findSubsets 24 = .ok (.aload_n 0, 1) := by decide +kernel
theorem dX4_findSubsets_25 : decode cX4_findSubsets 25 = .ok (.getfield 24, 3) := by decide +kernel
theorem dX4_findSubsets_28 : decode cX4_findSubsets 28 = .ok (.iload 6, 2) := by decide +kernel
theorem dX4_findSubsets_30 : decode cX4_findSubsets 30 = .ok (.invokevirtual 61, 3) := by decide +kernel
theorem dX4_findSubsets_33 : decode cX4_findSubsets 33 = .ok (.if_icmp .ge 41, 3) := by decide +kernel
theorem dX4_findSubsets_36 : decode cX4_findSubsets 36 = .ok (.aload_n 0, 1) := by decide +kernel
theorem dX4_findSubsets_37 : decode cX4_findSubsets 37 = .ok (.iload 7, 2) := by decide +kernel
theorem dX4_findSubsets_39 : decode cX4_findSubsets 39 = .ok (.iconst 1, 1) := by decide +kernel
theorem dX4_findSubsets_40 : decode cX4_findSubsets 40 = .ok (.iadd, 1) := by decide +kernel
theorem dX4_findSubsets_41 : decode cX4_findSubsets 41 = .ok (.iload_n 2, 1) := by decide +kernel
theorem dX4_findSubsets_42 : decode cX4_findSubsets 42 = .ok (.iconst 1, 1) := by decide +kernel
theorem dX4_findSubsets_43 : decode cX4_findSubsets 43 = .ok (.iadd, 1) := by decide +kernel
theorem dX4_findSubsets_44 : decode cX4_findSubsets 44 = .ok (.iload_n 3, 1) := by decide +kernel
theorem dX4_findSubsets_45 : decode cX4_findSubsets 45 = .ok (.aload_n 0, 1) := by decide +kernel
theorem dX4_findSubsets_46 : decode cX4_findSubsets 46 = .ok (.getfield 24, 3) := by decide +kernel
theorem dX4_findSubsets_49 : decode cX4_findSubsets 49 = .ok (.iload 6, 2) := by decide +kernel
theorem dX4_findSubsets_51 : decode cX4_findSubsets 51 = .ok (.iload 7, 2) := by decide +kernel
theorem dX4_findSubsets_53 : decode cX4_findSubsets 53 = .ok (.invokevirtual 71, 3) := by decide +kernel
theorem dX4_findSubsets_56 : decode cX4_findSubsets 56 = .ok (.iadd, 1) := by decide +kernel
theorem dX4_findSubsets_57 : decode cX4_findSubsets 57 = .ok (.lload 4, 2) := by decide +kernel
theorem dX4_findSubsets_59 : decode cX4_findSubsets 59 = .ok (.iload_n 2, 1) := by decide +kernel
theorem dX4_findSubsets_60 : decode cX4_findSubsets 60 = .ok (.iload 7, 2) := by decide +kernel
theorem dX4_findSubsets_62 : decode cX4_findSubsets 62 = .ok (.invokestatic 86, 3) := by decide +kernel
theorem dX4_findSubsets_65 : decode cX4_findSubsets 65 = .ok (.invokevirtual 47, 3) := by decide +kernel
theorem dX4_findSubsets_68 : decode cX4_findSubsets 68 = .ok (.iinc 7 1, 3) := by decide +kernel
theorem dX4_findSubsets_71 : decode cX4_findSubsets 71 = .ok (.goto (-49), 3) := by decide +kernel
theorem dX4_findSubsets_74 : decode cX4_findSubsets 74 = .ok (.return_, 1) := by decide +kernel
theorem dX4_findRoutes_0 : decode cX4_findRoutes 0 = .ok (.lload 4, 2) := by decide +kernel
theorem dX4_findRoutes_2 : decode cX4_findRoutes 2 = .ok (.iload_n 2, 1) := by decide +kernel
theorem dX4_findRoutes_3 : decode cX4_findRoutes 3 = .ok (.iload_n 1, 1) := by decide +kernel
theorem dX4_findRoutes_4 : decode cX4_findRoutes 4 = .ok (.invokestatic 86, 3) := by decide +kernel
theorem dX4_findRoutes_7 : decode cX4_findRoutes 7 = .ok (.lstore 7, 2) := by decide +kernel
theorem dX4_findRoutes_9 : decode cX4_findRoutes 9 = .ok (.iload_n 1, 1) := by decide +kernel
theorem dX4_findRoutes_10 : decode cX4_findRoutes 10 = .ok (.aload_n 0, 1) := by decide +kernel
theorem dX4_findRoutes_11 : decode cX4_findRoutes 11 = .ok (.getfield 24, 3) := by decide +kernel
theorem dX4_findRoutes_14 : decode cX4_findRoutes 14 = .ok (.invokevirtual 134, 3) := by decide +kernel
theorem dX4_findRoutes_17 : decode cX4_findRoutes 17 = .ok (.if_icmp .ne 14, 3) := by decide +kernel
theorem dX4_findRoutes_20 : decode cX4_findRoutes 20 = .ok (.aload_n 0, 1) := by decide +kernel
theorem dX4_findRoutes_21 : decode cX4_findRoutes 21 = .ok (.getfield 32, 3) := by decide +kernel
theorem dX4_findRoutes_24 : decode cX4_findRoutes 24 = .ok (.iload_n 3, 1) := by decide +kernel
theorem dX4_findRoutes_25 : decode cX4_findRoutes 25 = .ok (.lload 7, 2) := by decide +kernel
theorem dX4_findRoutes_27 : decode cX4_findRoutes 27 = .ok (.invokevirtual 80, 3) := by decide +kernel
theorem dX4_findRoutes_30 : decode cX4_findRoutes 30 = .ok (.return_, 1) := by decide +kernel
theorem dX4_findRoutes_31 : decode cX4_findRoutes 31 = .ok (.iload 6, 2) := by decide +kernel
theorem dX4_findRoutes_33 : decode cX4_findRoutes 33 = .ok (.iconst 1, 1) := by decide +kernel
theorem dX4_findRoutes_34 : decode cX4_findRoutes 34 = .ok (.iload_n 1, 1) := by decide +kernel
theorem dX4_findRoutes_35 : decode cX4_findRoutes 35 = .ok (.ishl, 1) := by decide +kernel
theorem dX4_findRoutes_36 : decode cX4_findRoutes 36 = .ok (.ior, 1) := by decide +kernel
theorem dX4_findRoutes_37 : decode cX4_findRoutes 37 = .ok (.istore 9, 2) := by decide +kernel
theorem dX4_findRoutes_39 : decode cX4_findRoutes 39 = .ok (.iconst 0, 1) := by decide +kernel
theorem dX4_findRoutes_40 : decode cX4_findRoutes 40 = .ok (.istore 10, 2) := by decide +kernel
theorem dX4_findRoutes_42 : decode cX4_findRoutes 42 = .ok (.iload 10, 2) := by decide +kernel
theorem dX4_findRoutes_44 : decode cX4_findRoutes 44 = .ok (.bipush 7, 2) := by decide +kernel
theorem dX4_findRoutes_46 : decode cX4_findRoutes 46 = .ok (.if_icmp .ge 61, 3) := by decide +kernel
theorem dX4_findRoutes_49 : decode cX4_findRoutes 49 = .ok (.iload_n 2, 1) := by decide +kernel
theorem dX4_findRoutes_50 : decode cX4_findRoutes 50 = .ok (.iconst 1, 1) := by decide +kernel
theorem dX4_findRoutes_51 : decode cX4_findRoutes 51 = .ok (.iadd, 1) := by decide +kernel
theorem dX4_findRoutes_52 : decode cX4_findRoutes 52 = .ok (.bipush 7, 2) := by decide +kernel
theorem dX4_findRoutes_54 : decode cX4_findRoutes 54 = .ok (.if_icmp .ge 53, 3) := by decide +kernel
theorem dX4_findRoutes_57 : decode cX4_findRoutes 57 = .ok (.aload_n 0, 1) := by decide +kernel
theorem dX4_findRoutes_58 : decode cX4_findRoutes 58 = .ok (.getfield 24, 3) := by decide +kernel
theorem dX4_findRoutes_61 : decode cX4_findRoutes 61 = .ok (.iload_n 1, 1) := by decide +kernel
theorem dX4_findRoutes_62 : decode cX4_findRoutes 62 = .ok (.iload 10, 2) := by decide +kernel
theorem dX4_findRoutes_64 : decode cX4_findRoutes 64 = .ok (.invokevirtual 94, 3) := by decide +kernel
theorem dX4_findRoutes_67 : decode cX4_findRoutes 67 = .ok (.istore 11, 2) := by decide +kernel
theorem dX4_findRoutes_69 : decode cX4_findRoutes 69 = .ok (.iload 11, 2) := by decide +kernel
theorem dX4_findRoutes_71 : decode cX4_findRoutes 71 = .ok (.ifCond .le 30, 3) := by decide +kernel
theorem dX4_findRoutes_74 : decode cX4_findRoutes 74 = .ok (.iload 9, 2) := by decide +kernel
theorem dX4_findRoutes_76 : decode cX4_findRoutes 76 = .ok (.iconst 1, 1) := by decide +kernel
theorem dX4_findRoutes_77 : decode cX4_findRoutes 77 = .ok (.iload 10, 2) := by decide +kernel
theorem dX4_findRoutes_79 : decode cX4_findRoutes 79 = .ok (.ishl, 1) := by decide +kernel
theorem dX4_findRoutes_80 : decode cX4_findRoutes 80 = .ok (.iand, 1) := by decide +kernel
theorem dX4_findRoutes_81 : decode cX4_findRoutes 81 = .ok (.ifCond .ne 20, 3) := by decide +kernel
theorem dX4_findRoutes_84 : decode cX4_findRoutes 84 = .ok (.aload_n 0, 1) := by decide +kernel
theorem dX4_findRoutes_85 : decode cX4_findRoutes 85 = .ok (.iload 10, 2) := by decide +kernel
theorem dX4_findRoutes_87 : decode cX4_findRoutes 87 = .ok (.iload_n 2, 1) := by decide +kernel
theorem dX4_findRoutes_88 : decode cX4_findRoutes 88 = .ok (.iconst 1, 1) := by decide +kernel
theorem dX4_findRoutes_89 : decode cX4_findRoutes 89 = .ok (.iadd, 1) := by decide +kernel
theorem dX4_findRoutes_90 : decode cX4_findRoutes 90 = .ok (.iload_n 3, 1) := by decide +kernel
theorem dX4_findRoutes_91 : decode cX4_findRoutes 91 = .ok (.iload 11, 2) := by decide +kernel
theorem dX4_findRoutes_93 : decode cX4_findRoutes 93 = .ok (.iadd, 1) := by decide +kernel
theorem dX4_findRoutes_94 : decode cX4_findRoutes 94 = .ok (.lload 7, 2) := by decide +kernel
theorem dX4_findRoutes_96 : decode cX4_findRoutes 96 = .ok (.iload 9, 2) := by decide +kernel
theorem dX4_findRoutes_98 : decode cX4_findRoutes 98 = .ok (.invokevirtual 57, 3) := by decide +kernel
theorem dX4_findRoutes_101 : decode cX4_findRoutes 101 = .ok (.iinc 10 1, 3) := by decide +kernel
theorem dX4_findRoutes_104 : decode cX4_findRoutes 104 = .ok (.goto (-62), 3) := by decide +kernel
theorem dX4_findRoutes_107 : decode cX4_findRoutes 107 = .ok (.return_, 1) := by decide +kernel
