theorem dX9_init_0 : decode cX9_init 0 = .ok (.aload_n 0, 1) := by decide +kernel
theorem dX9_init_1 : decode cX9_init 1 = .ok (.invokespecial 3, 3) := by decide +kernel
theorem dX9_init_4 : decode cX9_init 4 = .ok (.aload_n 0, 1) := by decide +kernel
theorem dX9_init_5 : decode cX9_init 5 = .ok (.bipush 80, 2) := by decide +kernel
theorem dX9_init_7 : decode cX9_init 7 = .ok (.newarray .char, 2) := by decide +kernel
theorem dX9_init_9 : decode cX9_init 9 = .ok (.putfield 9, 3) := by decide +kernel
theorem dX9_init_12 : decode cX9_init 12 = .ok (.return_, 1) := by decide +kernel
theorem dX9_length_0 : decode cX9_length 0 = .ok (.aload_n 0, 1) := by decide +kernel
theorem dX9_length_1 : decode cX9_length 1 = .ok (.getfield 15, 3) := by decide +kernel
theorem dX9_length_4 : decode cX9_length 4 = .ok (.ireturn, 1) := by decide +kernel
theorem dX9_at_0 : decode cX9_at 0 = .ok (.iload_n 1, 1) := by decide +kernel
theorem dX9_at_1 : decode cX9_at 1 = .ok (.ifCond .lt 20, 3) := by decide +kernel
theorem dX9_at_4 : decode cX9_at 4 = .ok (.iload_n 1, 1) := by decide +kernel
theorem dX9_at_5 : decode cX9_at 5 = .ok (.aload_n 0, 1) := by decide +kernel
theorem dX9_at_6 : decode cX9_at 6 = .ok (.getfield 15, 3) := by decide +kernel
theorem dX9_at_9 : decode cX9_at 9 = .ok (.if_icmp .ge 12, 3) := by decide +kernel
theorem dX9_at_12 : decode cX9_at 12 = .ok (.aload_n 0, 1) := by decide +kernel
theorem dX9_at_13 : decode cX9_at 13 = .ok (.getfield 9, 3) := by decide +kernel
theorem dX9_at_16 : decode cX9_at 16 = .ok (.iload_n 1, 1) := by decide +kernel
theorem dX9_at_17 : decode cX9_at 17 = .ok (.caload, 1) := by decide +kernel
theorem dX9_at_18 : decode cX9_at 18 = .ok (.goto 4, 3) := by decide +kernel
theorem dX9_at_21 : decode cX9_at 21 = .ok (.iconst 0, 1) := by decide +kernel
theorem dX9_at_22 : decode cX9_at 22 = .ok (.ireturn, 1) := by decide +kernel
theorem dX9_append_0 : decode cX9_append 0 = .ok (.aload_n 0, 1) := by decide +kernel
theorem dX9_append_1 : decode cX9_append 1 = .ok (.getfield 15, 3) := by decide +kernel
theorem dX9_append_4 : decode cX9_append 4 = .ok (.iconst 4, 1) := by decide +kernel
theorem dX9_append_5 : decode cX9_append 5 = .ok (.iadd, 1) := by decide +kernel
theorem dX9_append_6 : decode cX9_append 6 = .ok (.bipush 80, 2) := by decide +kernel
theorem dX9_append_8 : decode cX9_append 8 = .ok (.if_icmp .le 5, 3) := by decide +kernel
theorem dX9_append_11 : decode cX9_append 11 = .ok (.iconst 0, 1) := by decide +kernel
theorem dX9_append_12 : decode cX9_append 12 = .ok (.ireturn, 1) := by decide +kernel
theorem dX9_append_13 : decode cX9_append 13 = .ok (.bipush 24, 2) := by decide +kernel
theorem dX9_append_15 : decode cX9_append 15 = .ok (.istore_n 2, 1) := by decide +kernel
theorem dX9_append_16 : decode cX9_append 16 = .ok (.iload_n 2, 1) := by decide +kernel
theorem dX9_append_17 : decode cX9_append 17 = .ok (.ifCond .lt 36, 3) := by decide +kernel
theorem dX9_append_20 : decode cX9_append 20 = .ok (.aload_n 0, 1) := by decide +kernel
theorem dX9_append_21 : decode cX9_append 21 = .ok (.getfield 9, 3) := by decide +kernel
theorem dX9_append_24 : decode cX9_append 24 = .ok (.aload_n 0, 1) := by decide +kernel
theorem dX9_append_25 : decode cX9_append 25 = .ok (.getfield 15, 3) := by decide +kernel
theorem dX9_append_28 : decode cX9_append 28 = .ok (.iload_n 1, 1) := by decide +kernel
theorem dX9_append_29 : decode cX9_append 29 = .ok (.iload_n 2, 1) := by decide +kernel
theorem dX9_append_30 : decode cX9_append 30 = .ok (.iushr, 1) := by decide +kernel
theorem dX9_append_31 : decode cX9_append 31 = .ok (.sipush 255, 3) := by decide +kernel
theorem dX9_append_34 : decode cX9_append 34 = .ok (.iand, 1) := by decide +kernel
theorem dX9_append_35 : decode cX9_append 35 = .ok (.i2c, 1) := by decide +kernel
theorem dX9_append_36 : decode cX9_append 36 = .ok (.castore, 1) := by decide +kernel
theorem dX9_append_37 : decode cX9_append 37 = .ok (.aload_n 0, 1) := by decide +kernel
theorem dX9_append_38 : decode cX9_append 38 = .ok (.dup, 1) := by decide +kernel
theorem dX9_append_39 : decode cX9_append 39 = .ok (.getfield 15, 3) := by decide +kernel
theorem dX9_append_42 : decode cX9_append 42 = .ok (.iconst 1, 1) := by decide +kernel
theorem dX9_append_43 : decode cX9_append 43 = .ok (.iadd, 1) := by decide +kernel
theorem dX9_append_44 : decode cX9_append 44 = .ok (.putfield 15, 3) := by decide +kernel
theorem dX9_append_47 : decode cX9_append 47 = .ok (.iinc 2 (-8), 3) := by decide +kernel
theorem dX9_append_50 : decode cX9_append 50 = .ok (.goto (-34), 3) := by decide +kernel
theorem dX9_append_53 : decode cX9_append 53 = .ok (.iconst 1, 1) := by decide +kernel
theorem dX9_append_54 : decode cX9_append 54 = .ok (.ireturn, 1) := by decide +kernel
theorem dX9_cut_0 : decode cX9_cut 0 = .ok (.iload_n 1, 1) := by decide +kernel
theorem dX9_cut_1 : decode cX9_cut 1 = .ok (.ifCond .lt 11, 3) := by decide +kernel
theorem dX9_cut_4 : decode cX9_cut 4 = .ok (.iload_n 1, 1) := by decide +kernel
theorem dX9_cut_5 : decode cX9_cut 5 = .ok (.aload_n 0, 1) := by decide +kernel
theorem dX9_cut_6 : decode cX9_cut 6 = .ok (.getfield 15, 3) := by decide +kernel
theorem dX9_cut_9 : decode cX9_cut 9 = .ok (.if_icmp .le 5, 3) := by decide +kernel
theorem dX9_cut_12 : decode cX9_cut 12 = .ok (.iconst 0, 1) := by decide +kernel
theorem dX9_cut_13 : decode cX9_cut 13 = .ok (.ireturn, 1) := by decide +kernel
theorem dX9_cut_14 : decode cX9_cut 14 = .ok (.aload_n 0, 1) := by decide +kernel
theorem dX9_cut_15 : decode cX9_cut 15 = .ok (.iload_n 1, 1) := by decide +kernel
theorem dX9_cut_16 : decode cX9_cut 16 = .ok (.putfield 15, 3) := by decide +kernel
theorem dX9_cut_19 : decode cX9_cut 19 = .ok (.iconst 1, 1) := by decide +kernel
theorem dX9_cut_20 : decode cX9_cut 20 = .ok (.ireturn, 1) := by decide +kernel
theorem dX9_clear_0 : decode cX9_clear 0 = .ok (.aload_n 0, 1) := by decide +kernel
theorem dX9_clear_1 : decode cX9_clear 1 = .ok (.iconst 0, 1) := by decide +kernel
theorem dX9_clear_2 : decode cX9_clear 2 = .ok (.putfield 15, 3) := by decide +kernel
theorem dX9_clear_5 : decode cX9_clear 5 = .ok (.return_, 1) := by decide +kernel
theorem dX9_hasDigit_0 : decode cX9_hasDigit 0 = .ok (.aload_n 0, 1) := by decide +kernel
theorem dX9_hasDigit_1 : decode cX9_hasDigit 1 = .ok (.iload_n 1, 1) := by decide +kernel
theorem dX9_hasDigit_2 : decode cX9_hasDigit 2 = .ok (.invokevirtual 19, 3) := by decide +kernel
theorem dX9_hasDigit_5 : decode cX9_hasDigit 5 = .ok (.bipush 48, 2) := by decide +kernel
theorem dX9_hasDigit_7 : decode cX9_hasDigit 7 = .ok (.if_icmp .lt 17, 3) := by decide +kernel
theorem dX9_hasDigit_10 : decode cX9_hasDigit 10 = .ok (.aload_n 0, 1) := by decide +kernel
theorem dX9_hasDigit_11 : decode cX9_hasDigit 11 = .ok (.iload_n 1, 1) := by decide +kernel
theorem dX9_hasDigit_12 : decode cX9_hasDigit 12 = .ok (.invokevirtual 19, 3) := by decide +kernel
theorem dX9_hasDigit_15 : decode cX9_hasDigit 15 = .ok (.bipush 57, 2) := by decide +kernel
theorem dX9_hasDigit_17 : decode cX9_hasDigit 17 = .ok (.if_icmp .gt 7, 3) := by decide +kernel
theorem dX9_hasDigit_20 : decode cX9_hasDigit 20 = .ok (.iconst 1, 1) := by decide +kernel
theorem dX9_hasDigit_21 : decode cX9_hasDigit 21 = .ok (.goto 4, 3) := by decide +kernel
theorem dX9_hasDigit_24 : decode cX9_hasDigit 24 = .ok (.iconst 0, 1) := by decide +kernel
theorem dX9_hasDigit_25 : decode cX9_hasDigit 25 = .ok (.ireturn, 1) := by decide +kernel
theorem dX9_digit_0 : decode cX9_digit 0 = .ok (.aload_n 0, 1) := by decide +kernel
theorem dX9_digit_1 : decode cX9_digit 1 = .ok (.iload_n 1, 1) := by decide +kernel
theorem dX9_digit_2 : decode cX9_digit 2 = .ok (.invokevirtual 19, 3) := by decide +kernel
theorem dX9_digit_5 : decode cX9_digit 5 = .ok (.bipush 48, 2) := by decide +kernel
theorem dX9_digit_7 : decode cX9_digit 7 = .ok (.isub, 1) := by decide +kernel
theorem dX9_digit_8 : decode cX9_digit 8 = .ok (.ireturn, 1) := by decide +kernel
theorem dX9_twoDigits_0 : decode cX9_twoDigits 0 = .ok (.bipush 10, 2) := by decide +kernel
theorem dX9_twoDigits_2 : decode cX9_twoDigits 2 = .ok (.aload_n 0, 1) := by decide +kernel
theorem dX9_twoDigits_3 : decode cX9_twoDigits 3 = .ok (.iload_n 1, 1) := by decide +kernel
theorem dX9_twoDigits_4 : decode cX9_twoDigits 4 = .ok (.invokevirtual 23, 3) := by decide +kernel
theorem dX9_twoDigits_7 : decode cX9_twoDigits 7 = .ok (.imul, 1) := by decide +kernel
theorem dX9_twoDigits_8 : decode cX9_twoDigits 8 = .ok (.aload_n 0, 1) := by decide +kernel
theorem dX9_twoDigits_9 : decode cX9_twoDigits 9 = .ok (.iload_n 1, 1) := by decide +kernel
theorem dX9_twoDigits_10 : decode cX9_twoDigits 10 = .ok (.iconst 1, 1) := by decide +kernel
theorem dX9_twoDigits_11 : decode cX9_twoDigits 11 = .ok (.iadd, 1) := by decide +kernel
theorem dX9_twoDigits_12 : decode cX9_twoDigits 12 = .ok (.invokevirtual 23, 3) := by decide +kernel
theorem dX9_twoDigits_15 : decode cX9_twoDigits 15 = .ok (.iadd, 1) := by decide +kernel
theorem dX9_twoDigits_16 : decode cX9_twoDigits 16 = .ok (.ireturn, 1) := by decide +kernel
theorem dX9_node_0 : decode cX9_node 0 = .ok (.aload_n 0, 1) := by decide +kernel
theorem dX9_node_1 : decode cX9_node 1 = .ok (.iload_n 1, 1) := by decide +kernel
theorem dX9_node_2 : decode cX9_node 2 = .ok (.invokevirtual 19, 3) := by decide +kernel
theorem dX9_node_5 : decode cX9_node 5 = .ok (.bipush 97, 2) := by decide +kernel
theorem dX9_node_7 : decode cX9_node 7 = .ok (.isub, 1) := by decide +kernel
theorem dX9_node_8 : decode cX9_node 8 = .ok (.ireturn, 1) := by decide +kernel
theorem dX9_numbersInto_0 : decode cX9_numbersInto 0 = .ok (.aload_n 0, 1) := by decide +kernel
theorem dX9_numbersInto_1 : decode cX9_numbersInto 1 = .ok (.getfield 15, 3) := by decide +kernel
theorem dX9_numbersInto_4 : decode cX9_numbersInto 4 = .ok (.ifCond .ne 5, 3) := by decide +kernel
theorem dX9_numbersInto_7 : decode cX9_numbersInto 7 = .ok (.iconst 0, 1) := by decide +kernel
theorem dX9_numbersInto_8 : decode cX9_numbersInto 8 = .ok (.ireturn, 1) := by decide +kernel
theorem dX9_numbersInto_9 : decode cX9_numbersInto 9 = .ok (.iconst 0, 1) := by decide +kernel
theorem dX9_numbersInto_10 : decode cX9_numbersInto 10 = .ok (.istore_n 2, 1) := by decide +kernel
theorem dX9_numbersInto_11 : decode cX9_numbersInto 11 = .ok (.iconst 0, 1) := by decide +kernel
theorem dX9_numbersInto_12 : decode cX9_numbersInto 12 = .ok (.istore_n 3, 1) := by decide +kernel
theorem dX9_numbersInto_13 : decode cX9_numbersInto 13 = .ok (.iload_n 3, 1) := by decide +kernel
theorem dX9_numbersInto_14 : decode cX9_numbersInto 14 = .ok (.aload_n 1, 1) := by decide +kernel
theorem dX9_numbersInto_15 : decode cX9_numbersInto 15 = .ok (.arraylength, 1) := by decide +kernel
theorem dX9_numbersInto_16 : decode cX9_numbersInto 16 = .ok (.if_icmp .ge 87, 3) := by decide +kernel
theorem dX9_numbersInto_19 : decode cX9_numbersInto 19 = .ok (.aload_n 0, 1) := by decide +kernel
theorem dX9_numbersInto_20 : decode cX9_numbersInto 20 = .ok (.iload_n 2, 1) := by decide +kernel
theorem dX9_numbersInto_21 : decode cX9_numbersInto 21 = .ok (.invokevirtual 27, 3) := by decide +kernel
theorem dX9_numbersInto_24 : decode cX9_numbersInto 24 = .ok (.ifCond .ne 7, 3) := by decide +kernel
theorem dX9_numbersInto_27 : decode cX9_numbersInto 27 = .ok (.iconst (-1), 1) := by decide +kernel
theorem dX9_numbersInto_28 : decode cX9_numbersInto 28 = .ok (.iload_n 2, 1) := by decide +kernel
theorem dX9_numbersInto_29 : decode cX9_numbersInto 29 = .ok (.isub, 1) := by decide +kernel
theorem dX9_numbersInto_30 : decode cX9_numbersInto 30 = .ok (.ireturn, 1) := by decide +kernel
theorem dX9_numbersInto_31 : decode cX9_numbersInto 31 = .ok (.aload_n 1, 1) := by decide +kernel
theorem dX9_numbersInto_32 : decode cX9_numbersInto 32 = .ok (.iload_n 3, 1) := by decide +kernel
theorem dX9_numbersInto_33 : decode cX9_numbersInto 33 = .ok (.aload_n 0, 1) := by decide +kernel
theorem dX9_numbersInto_34 : decode cX9_numbersInto 34 = .ok (.iload_n 2, 1) := by decide +kernel
theorem dX9_numbersInto_35 : decode cX9_numbersInto 35 = .ok (.invokevirtual 23, 3) := by decide +kernel
theorem dX9_numbersInto_38 : decode cX9_numbersInto 38 = .ok (.iastore, 1) := by decide +kernel
theorem dX9_numbersInto_39 : decode cX9_numbersInto 39 = .ok (.iinc 2 1, 3) := by decide +kernel
theorem dX9_numbersInto_42 : decode cX9_numbersInto 42 = .ok (.aload_n 0, 1) := by decide +kernel
theorem dX9_numbersInto_43 : decode cX9_numbersInto 43 = .ok (.iload_n 2, 1) := by decide +kernel
theorem dX9_numbersInto_44 : decode cX9_numbersInto 44 = .ok (.invokevirtual 27, 3) := by decide +kernel
theorem dX9_numbersInto_47 : decode cX9_numbersInto 47 = .ok (.ifCond .eq 21, 3) := by decide +kernel
theorem dX9_numbersInto_50 : decode cX9_numbersInto 50 = .ok (.aload_n 1, 1) := by decide +kernel
theorem dX9_numbersInto_51 : decode cX9_numbersInto 51 = .ok (.iload_n 3, 1) := by decide +kernel
theorem dX9_numbersInto_52 : decode cX9_numbersInto 52 = .ok (.bipush 10, 2) := by decide +kernel
theorem dX9_numbersInto_54 : decode cX9_numbersInto 54 = .ok (.aload_n 1, 1) := by decide +kernel
theorem dX9_numbersInto_55 : decode cX9_numbersInto 55 = .ok (.iload_n 3, 1) := by decide +kernel
theorem dX9_numbersInto_56 : decode cX9_numbersInto 56 = .ok (.iaload, 1) := by decide +kernel
theorem dX9_numbersInto_57 : decode cX9_numbersInto 57 = .ok (.imul, 1) := by decide +kernel
theorem dX9_numbersInto_58 : decode cX9_numbersInto 58 = .ok (.aload_n 0, 1) := by decide +kernel
theorem dX9_numbersInto_59 : decode cX9_numbersInto 59 = .ok (.iload_n 2, 1) := by decide +kernel
theorem dX9_numbersInto_60 : decode cX9_numbersInto 60 = .ok (.invokevirtual 23, 3) := by decide +kernel
theorem dX9_numbersInto_63 : decode cX9_numbersInto 63 = .ok (.iadd, 1) := by decide +kernel
theorem dX9_numbersInto_64 : decode cX9_numbersInto 64 = .ok (.iastore, 1) := by decide +kernel
theorem dX9_numbersInto_65 : decode cX9_numbersInto 65 = .ok (.iinc 2 1, 3) := by decide +kernel
theorem dX9_numbersInto_68 : decode cX9_numbersInto 68 = .ok (.iload_n 2, 1) := by decide +kernel
theorem dX9_numbersInto_69 : decode cX9_numbersInto 69 = .ok (.aload_n 0, 1) := by decide +kernel
theorem dX9_numbersInto_70 : decode cX9_numbersInto 70 = .ok (.getfield 15, 3) := by decide +kernel
theorem dX9_numbersInto_73 : decode cX9_numbersInto 73 = .ok (.if_icmp .ne 7, 3) := by decide +kernel
theorem dX9_numbersInto_76 : decode cX9_numbersInto 76 = .ok (.iload_n 3, 1) := by decide +kernel
theorem dX9_numbersInto_77 : decode cX9_numbersInto 77 = .ok (.iconst 1, 1) := by decide +kernel
theorem dX9_numbersInto_78 : decode cX9_numbersInto 78 = .ok (.iadd, 1) := by decide +kernel
theorem dX9_numbersInto_79 : decode cX9_numbersInto 79 = .ok (.ireturn, 1) := by decide +kernel
theorem dX9_numbersInto_80 : decode cX9_numbersInto 80 = .ok (.aload_n 0, 1) := by decide +kernel
theorem dX9_numbersInto_81 : decode cX9_numbersInto 81 = .ok (.iload_n 2, 1) := by decide +kernel
theorem dX9_numbersInto_82 : decode cX9_numbersInto 82 = .ok (.invokevirtual 19, 3) := by decide +kernel
theorem dX9_numbersInto_85 : decode cX9_numbersInto 85 = .ok (.bipush 44, 2) := by decide +kernel
theorem dX9_numbersInto_87 : decode cX9_numbersInto 87 = .ok (.if_icmp .eq 7, 3) := by decide +kernel
theorem dX9_numbersInto_90 : decode cX9_numbersInto 90 = .ok (.iconst (-1), 1) := by decide +kernel
theorem dX9_numbersInto_91 : decode cX9_numbersInto 91 = .ok (.iload_n 2, 1) := by decide +kernel
theorem dX9_numbersInto_92 : decode cX9_numbersInto 92 = .ok (.isub, 1) := by decide +kernel
theorem dX9_numbersInto_93 : decode cX9_numbersInto 93 = .ok (.ireturn, 1) := by decide +kernel
theorem dX9_numbersInto_94 : decode cX9_numbersInto 94 = .ok (.iinc 2 1, 3) := by decide +kernel
theorem dX9_numbersInto_97 : decode cX9_numbersInto 97 = .ok (.iinc 3 1, 3) := by decide +kernel
theorem dX9_numbersInto_100 : decode cX9_numbersInto 100 = .ok (.goto (-87), 3) := by decide +kernel
theorem dX9_numbersInto_103 : decode cX9_numbersInto 103 = .ok (.iconst (-1), 1) := by decide +kernel
theorem dX9_numbersInto_104 : decode cX9_numbersInto 104 = .ok (.iload_n 2, 1) := by decide +kernel
theorem dX9_numbersInto_105 : decode cX9_numbersInto 105 = .ok (.isub, 1) := by decide +kernel
theorem dX9_numbersInto_106 : decode cX9_numbersInto 106 = .ok (.ireturn, 1) := by decide +kernel
