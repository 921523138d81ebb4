theorem dX2_with_0 : decode cX2_with 0 = .ok (.lload_n 0, 1) := by decide +kernel
theorem dX2_with_1 : decode cX2_with 1 = .ok (.iload_n 3, 1) := by decide +kernel
theorem dX2_with_2 : decode cX2_with 2 = .ok (.iconst 1, 1) := by decide +kernel
theorem dX2_with_3 : decode cX2_with 3 = .ok (.iadd, 1) := by decide +kernel
theorem dX2_with_4 : decode cX2_with 4 = .ok (.i2l, 1) := by decide +kernel
theorem dX2_with_5 : decode cX2_with 5 = .ok (.bipush 28, 2) := by decide +kernel
theorem dX2_with_7 : decode cX2_with 7 = .ok (.iconst 4, 1) := by decide +kernel
theorem dX2_with_8 : decode cX2_with 8 = .ok (.iload_n 2, 1) := by decide +kernel
theorem dX2_with_9 : decode cX2_with 9 = .ok (.imul, 1) := by decide +kernel
theorem dX2_with_10 : decode cX2_with 10 = .ok (.isub, 1) := by decide +kernel
theorem dX2_with_11 : decode cX2_with 11 = .ok (.lshl, 1) := by decide +kernel
theorem dX2_with_12 : decode cX2_with 12 = .ok (.lor, 1) := by decide +kernel
theorem dX2_with_13 : decode cX2_with 13 = .ok (.lreturn, 1) := by decide +kernel
theorem dX2_numberAt_0 : decode cX2_numberAt 0 = .ok (.lload_n 0, 1) := by decide +kernel
theorem dX2_numberAt_1 : decode cX2_numberAt 1 = .ok (.bipush 28, 2) := by decide +kernel
theorem dX2_numberAt_3 : decode cX2_numberAt 3 = .ok (.iconst 4, 1) := by decide +kernel
theorem dX2_numberAt_4 : decode cX2_numberAt 4 = .ok (.iload_n 2, 1) := by decide +kernel
theorem dX2_numberAt_5 : decode cX2_numberAt 5 = .ok (.imul, 1) := by decide +kernel
theorem dX2_numberAt_6 : decode cX2_numberAt 6 = .ok (.isub, 1) := by decide +kernel
theorem dX2_numberAt_7 : decode cX2_numberAt 7 = .ok (.lushr, 1) := by decide +kernel
theorem dX2_numberAt_8 : decode cX2_numberAt 8 = .ok (.ldc2_w 11, 3) := by decide +kernel
theorem dX2_numberAt_11 : decode cX2_numberAt 11 = .ok (.land, 1) := by decide +kernel
theorem dX2_numberAt_12 : decode cX2_numberAt 12 = .ok (.l2i, 1) := by decide +kernel
theorem dX2_numberAt_13 : decode cX2_numberAt 13 = .ok (.iconst 1, 1) := by decide +kernel
theorem dX2_numberAt_14 : decode cX2_numberAt 14 = .ok (.isub, 1) := by decide +kernel
theorem dX2_numberAt_15 : decode cX2_numberAt 15 = .ok (.ireturn, 1) := by decide +kernel
theorem dX2_lengthOf_0 : decode cX2_lengthOf 0 = .ok (.iconst 0, 1) := by decide +kernel
theorem dX2_lengthOf_1 : decode cX2_lengthOf 1 = .ok (.istore_n 2, 1) := by decide +kernel
theorem dX2_lengthOf_2 : decode cX2_lengthOf 2 = .ok (.iload_n 2, 1) := by decide +kernel
theorem dX2_lengthOf_3 : decode cX2_lengthOf 3 = .ok (.bipush 8, 2) := by decide +kernel
theorem dX2_lengthOf_5 : decode cX2_lengthOf 5 = .ok (.if_icmp .ge 17, 3) := by decide +kernel
theorem dX2_lengthOf_8 : decode cX2_lengthOf 8 = .ok (.lload_n 0, 1) := by decide +kernel
theorem dX2_lengthOf_9 : decode cX2_lengthOf 9 = .ok (.iload_n 2, 1) := by decide +kernel
theorem dX2_lengthOf_10 : decode cX2_lengthOf 10 = .ok (.invokestatic 13, 3) := by decide +kernel
theorem dX2_lengthOf_13 : decode cX2_lengthOf 13 = .ok (.ifCond .lt 9, 3) := by decide +kernel
theorem dX2_lengthOf_16 : decode cX2_lengthOf 16 = .ok (.iinc 2 1, 3) := by decide +kernel
theorem dX2_lengthOf_19 : decode cX2_lengthOf 19 = .ok (.goto (-17), 3) := by decide +kernel
theorem dX2_lengthOf_22 : decode cX2_lengthOf 22 = .ok (.iload_n 2, 1) := by decide +kernel
theorem dX2_lengthOf_23 : decode cX2_lengthOf 23 = .ok (.ireturn, 1) := by decide +kernel
theorem dX2_differences_0 : decode cX2_differences 0 = .ok (.iconst 0, 1) := by decide +kernel
theorem dX2_differences_1 : decode cX2_differences 1 = .ok (.istore 4, 2) := by decide +kernel
theorem dX2_differences_3 : decode cX2_differences 3 = .ok (.iconst 0, 1) := by decide +kernel
theorem dX2_differences_4 : decode cX2_differences 4 = .ok (.istore 5, 2) := by decide +kernel
theorem dX2_differences_6 : decode cX2_differences 6 = .ok (.iload 5, 2) := by decide +kernel
theorem dX2_differences_8 : decode cX2_differences 8 = .ok (.bipush 8, 2) := by decide +kernel
theorem dX2_differences_10 : decode cX2_differences 10 = .ok (.if_icmp .ge 33, 3) := by decide +kernel
theorem dX2_differences_13 : decode cX2_differences 13 = .ok (.lload_n 0, 1) := by decide +kernel
theorem dX2_differences_14 : decode cX2_differences 14 = .ok (.iload 5, 2) := by decide +kernel
theorem dX2_differences_16 : decode cX2_differences 16 = .ok (.invokestatic 13, 3) := by decide +kernel
theorem dX2_differences_19 : decode cX2_differences 19 = .ok (.lload_n 2, 1) := by decide +kernel
theorem dX2_differences_20 : decode cX2_differences 20 = .ok (.iload 5, 2) := by decide +kernel
theorem dX2_differences_22 : decode cX2_differences 22 = .ok (.invokestatic 13, 3) := by decide +kernel
theorem dX2_differences_25 : decode cX2_differences 25 = .ok (.if_icmp .eq 12, 3) := by decide +kernel
theorem dX2_differences_28 : decode cX2_differences 28 = .ok (.iload 4, 2) := by decide +kernel
theorem dX2_differences_30 : decode cX2_differences 30 = .ok (.iconst 1, 1) := by decide +kernel
theorem dX2_differences_31 : decode cX2_differences 31 = .ok (.iload 5, 2) := by decide +kernel
theorem dX2_differences_33 : decode cX2_differences 33 = .ok (.ishl, 1) := by decide +kernel
theorem dX2_differences_34 : decode cX2_differences 34 = .ok (.ior, 1) := by decide +kernel
theorem dX2_differences_35 : decode cX2_differences 35 = .ok (.istore 4, 2) := by decide +kernel
theorem dX2_differences_37 : decode cX2_differences 37 = .ok (.iinc 5 1, 3) := by decide +kernel
theorem dX2_differences_40 : decode cX2_differences 40 = .ok (.goto (-34), 3) := by decide +kernel
theorem dX2_differences_43 : decode cX2_differences 43 = .ok (.iload 4, 2) := by decide +kernel
theorem dX2_differences_45 : decode cX2_differences 45 = .ok (.ireturn, 1) := by decide +kernel
theorem dX2_firstOf_0 : decode cX2_firstOf 0 = .ok (.iconst 0, 1) := by decide +kernel
theorem dX2_firstOf_1 : decode cX2_firstOf 1 = .ok (.istore_n 1, 1) := by decide +kernel
theorem dX2_firstOf_2 : decode cX2_firstOf 2 = .ok (.iload_n 1, 1) := by decide +kernel
theorem dX2_firstOf_3 : decode cX2_firstOf 3 = .ok (.bipush 8, 2) := by decide +kernel
theorem dX2_firstOf_5 : decode cX2_firstOf 5 = .ok (.if_icmp .ge 17, 3) := by decide +kernel
theorem dX2_firstOf_8 : decode cX2_firstOf 8 = .ok (.iload_n 0, 1) := by decide +kernel
theorem dX2_firstOf_9 : decode cX2_firstOf 9 = .ok (.iconst 1, 1) := by decide +kernel
theorem dX2_firstOf_10 : decode cX2_firstOf 10 = .ok (.iload_n 1, 1) := by decide +kernel
theorem dX2_firstOf_11 : decode cX2_firstOf 11 = .ok (.ishl, 1) := by decide +kernel
theorem dX2_firstOf_12 : decode cX2_firstOf 12 = .ok (.iand, 1) := by decide +kernel
theorem dX2_firstOf_13 : decode cX2_firstOf 13 = .ok (.ifCond .ne 9, 3) := by decide +kernel
theorem dX2_firstOf_16 : decode cX2_firstOf 16 = .ok (.iinc 1 1, 3) := by decide +kernel
theorem dX2_firstOf_19 : decode cX2_firstOf 19 = .ok (.goto (-17), 3) := by decide +kernel
theorem dX2_firstOf_22 : decode cX2_firstOf 22 = .ok (.iload_n 1, 1) := by decide +kernel
theorem dX2_firstOf_23 : decode cX2_firstOf 23 = .ok (.ireturn, 1) := by decide +kernel
theorem dX2_numbersOf_0 : decode cX2_numbersOf 0 = .ok (.iconst 0, 1) := by decide +kernel
theorem dX2_numbersOf_1 : decode cX2_numbersOf 1 = .ok (.istore_n 2, 1) := by decide +kernel
theorem dX2_numbersOf_2 : decode cX2_numbersOf 2 = .ok (.lload_n 0, 1) := by decide +kernel
theorem dX2_numbersOf_3 : decode cX2_numbersOf 3 = .ok (.invokestatic 17, 3) := by decide +kernel
theorem dX2_numbersOf_6 : decode cX2_numbersOf 6 = .ok (.istore_n 3, 1) := by decide +kernel
theorem dX2_numbersOf_7 : decode cX2_numbersOf 7 = .ok (.iconst 0, 1) := by decide +kernel
theorem dX2_numbersOf_8 : decode cX2_numbersOf 8 = .ok (.istore 4, 2) := by decide +kernel
theorem dX2_numbersOf_10 : decode cX2_numbersOf 10 = .ok (.iload 4, 2) := by decide +kernel
theorem dX2_numbersOf_12 : decode cX2_numbersOf 12 = .ok (.iload_n 3, 1) := by decide +kernel
theorem dX2_numbersOf_13 : decode cX2_numbersOf 13 = .ok (.if_icmp .ge 20, 3) := by decide +kernel
theorem dX2_numbersOf_16 : decode cX2_numbersOf 16 = .ok (.iload_n 2, 1) := by decide +kernel
theorem dX2_numbersOf_17 : decode cX2_numbersOf 17 = .ok (.iconst 1, 1) := by decide +kernel
theorem dX2_numbersOf_18 : decode cX2_numbersOf 18 = .ok (.lload_n 0, 1) := by decide +kernel
theorem dX2_numbersOf_19 : decode cX2_numbersOf 19 = .ok (.iload 4, 2) := by decide +kernel
theorem dX2_numbersOf_21 : decode cX2_numbersOf 21 = .ok (.invokestatic 13, 3) := by decide +kernel
theorem dX2_numbersOf_24 : decode cX2_numbersOf 24 = .ok (.ishl, 1) := by decide +kernel
theorem dX2_numbersOf_25 : decode cX2_numbersOf 25 = .ok (.ior, 1) := by decide +kernel
theorem dX2_numbersOf_26 : decode cX2_numbersOf 26 = .ok (.istore_n 2, 1) := by decide +kernel
theorem dX2_numbersOf_27 : decode cX2_numbersOf 27 = .ok (.iinc 4 1, 3) := by decide +kernel
theorem dX2_numbersOf_30 : decode cX2_numbersOf 30 = .ok (.goto (-20), 3) := by decide +kernel
theorem dX2_numbersOf_33 : decode cX2_numbersOf 33 = .ok (.iload_n 2, 1) := by decide +kernel
theorem dX2_numbersOf_34 : decode cX2_numbersOf 34 = .ok (.ireturn, 1) := by decide +kernel
theorem dX2_fault_0 : decode cX2_fault 0 = .ok (.iconst 0, 1) := by decide +kernel
theorem dX2_fault_1 : decode cX2_fault 1 = .ok (.istore_n 1, 1) := by decide +kernel
theorem dX2_fault_2 : decode cX2_fault 2 = .ok (.iload_n 1, 1) := by decide +kernel
theorem dX2_fault_3 : decode cX2_fault 3 = .ok (.aload_n 0, 1) := by decide +kernel
theorem dX2_fault_4 : decode cX2_fault 4 = .ok (.invokevirtual 21, 3) := by decide +kernel
theorem dX2_fault_7 : decode cX2_fault 7 = .ok (.if_icmp .ge 37, 3) := by decide +kernel
theorem dX2_fault_10 : decode cX2_fault 10 = .ok (.iload_n 1, 1) := by decide +kernel
theorem dX2_fault_11 : decode cX2_fault 11 = .ok (.bipush 8, 2) := by decide +kernel
theorem dX2_fault_13 : decode cX2_fault 13 = .ok (.if_icmp .ge 23, 3) := by decide +kernel
theorem dX2_fault_16 : decode cX2_fault 16 = .ok (.aload_n 0, 1) := by decide +kernel
theorem dX2_fault_17 : decode cX2_fault 17 = .ok (.iload_n 1, 1) := by decide +kernel
theorem dX2_fault_18 : decode cX2_fault 18 = .ok (.invokevirtual 27, 3) := by decide +kernel
theorem dX2_fault_21 : decode cX2_fault 21 = .ok (.bipush 97, 2) := by decide +kernel
theorem dX2_fault_23 : decode cX2_fault 23 = .ok (.if_icmp .lt 13, 3) := by decide +kernel
theorem dX2_fault_26 : decode cX2_fault 26 = .ok (.aload_n 0, 1) := by decide +kernel
theorem dX2_fault_27 : decode cX2_fault 27 = .ok (.iload_n 1, 1) := by decide +kernel
theorem dX2_fault_28 : decode cX2_fault 28 = .ok (.invokevirtual 27, 3) := by decide +kernel
theorem dX2_fault_31 : decode cX2_fault 31 = .ok (.bipush 109, 2) := by decide +kernel
theorem dX2_fault_33 : decode cX2_fault 33 = .ok (.if_icmp .lt 5, 3) := by decide +kernel
theorem dX2_fault_36 : decode cX2_fault 36 = .ok (.iload_n 1, 1) := by decide +kernel
theorem dX2_fault_37 : decode cX2_fault 37 = .ok (.ireturn, 1) := by decide +kernel
theorem dX2_fault_38 : decode cX2_fault 38 = .ok (.iinc 1 1, 3) := by decide +kernel
theorem dX2_fault_41 : decode cX2_fault 41 = .ok (.goto (-39), 3) := by decide +kernel
theorem dX2_fault_44 : decode cX2_fault 44 = .ok (.iconst (-1), 1) := by decide +kernel
theorem dX2_fault_45 : decode cX2_fault 45 = .ok (.ireturn, 1) := by decide +kernel
theorem dX2_of_0 : decode cX2_of 0 = .ok (.lconst 0, 1) := by decide +kernel
theorem dX2_of_1 : decode cX2_of 1 = .ok (.lstore_n 1, 1) := by decide +kernel
theorem dX2_of_2 : decode cX2_of 2 = .ok (.aload_n 0, 1) := by decide +kernel
theorem dX2_of_3 : decode cX2_of 3 = .ok (.invokevirtual 21, 3) := by decide +kernel
theorem dX2_of_6 : decode cX2_of 6 = .ok (.bipush 8, 2) := by decide +kernel
theorem dX2_of_8 : decode cX2_of 8 = .ok (.invokestatic 31, 3) := by decide +kernel
theorem dX2_of_11 : decode cX2_of 11 = .ok (.istore_n 3, 1) := by decide +kernel
theorem dX2_of_12 : decode cX2_of 12 = .ok (.iconst 0, 1) := by decide +kernel
theorem dX2_of_13 : decode cX2_of 13 = .ok (.istore 4, 2) := by decide +kernel
theorem dX2_of_15 : decode cX2_of 15 = .ok (.iload 4, 2) := by decide +kernel
theorem dX2_of_17 : decode cX2_of 17 = .ok (.iload_n 3, 1) := by decide +kernel
theorem dX2_of_18 : decode cX2_of 18 = .ok (.if_icmp .ge 25, 3) := by decide +kernel
theorem dX2_of_21 : decode cX2_of 21 = .ok (.lload_n 1, 1) := by decide +kernel
theorem dX2_of_22 : decode cX2_of 22 = .ok (.iload 4, 2) := by decide +kernel
theorem dX2_of_24 : decode cX2_of 24 = .ok (.aload_n 0, 1) := by decide +kernel
theorem dX2_of_25 : decode cX2_of 25 = .ok (.iload 4, 2) := by decide +kernel
theorem dX2_of_27 : decode cX2_of 27 = .ok (.invokevirtual 27, 3) := by decide +kernel
theorem dX2_of_30 : decode cX2_of 30 = .ok (.bipush 97, 2) := by decide +kernel
theorem dX2_of_32 : decode cX2_of 32 = .ok (.isub, 1) := by decide +kernel
theorem dX2_of_33 : decode cX2_of 33 = .ok (.invokestatic 37, 3) := by decide +kernel
theorem dX2_of_36 : decode cX2_of 36 = .ok (.lstore_n 1, 1) := by decide +kernel
theorem dX2_of_37 : decode cX2_of 37 = .ok (.iinc 4 1, 3) := by decide +kernel
theorem dX2_of_40 : decode cX2_of 40 = .ok (.goto (-25), 3) := by decide +kernel
theorem dX2_of_43 : decode cX2_of 43 = .ok (.lload_n 1, 1) := by decide +kernel
theorem dX2_of_44 : decode cX2_of 44 = .ok (.lreturn, 1) := by decide +kernel
