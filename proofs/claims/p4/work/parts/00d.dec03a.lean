theorem dX3_init_0 : decode cX3_init 0 = .ok (.aload_n 0, 1) := by decide +kernel
theorem dX3_init_1 : decode cX3_init 1 = .ok (.invokespecial 3, 3) := by decide +kernel
theorem dX3_init_4 : decode cX3_init 4 = .ok (.return_, 1) := by decide +kernel
theorem dX3_open_0 : decode cX3_open 0 = .ok (.aload_n 0, 1) := by decide +kernel
theorem dX3_open_1 : decode cX3_open 1 = .ok (.iload_n 1, 1) := by decide +kernel
theorem dX3_open_2 : decode cX3_open 2 = .ok (.putfield 9, 3) := by decide +kernel
theorem dX3_open_5 : decode cX3_open 5 = .ok (.aload_n 0, 1) := by decide +kernel
theorem dX3_open_6 : decode cX3_open 6 = .ok (.iconst 0, 1) := by decide +kernel
theorem dX3_open_7 : decode cX3_open 7 = .ok (.putfield 15, 3) := by decide +kernel
theorem dX3_open_10 : decode cX3_open 10 = .ok (.aload_n 0, 1) := by decide +kernel
theorem dX3_open_11 : decode cX3_open 11 = .ok (.iconst 1, 1) := by decide +kernel
theorem dX3_open_12 : decode cX3_open 12 = .ok (.putfield 18, 3) := by decide +kernel
theorem dX3_open_15 : decode cX3_open 15 = .ok (.aload_n 0, 1) := by decide +kernel
theorem dX3_open_16 : decode cX3_open 16 = .ok (.iconst 0, 1) := by decide +kernel
theorem dX3_open_17 : decode cX3_open 17 = .ok (.putfield 22, 3) := by decide +kernel
theorem dX3_open_20 : decode cX3_open 20 = .ok (.return_, 1) := by decide +kernel
theorem dX3_outdate_0 : decode cX3_outdate 0 = .ok (.aload_n 0, 1) := by decide +kernel
theorem dX3_outdate_1 : decode cX3_outdate 1 = .ok (.iconst 1, 1) := by decide +kernel
theorem dX3_outdate_2 : decode cX3_outdate 2 = .ok (.putfield 22, 3) := by decide +kernel
theorem dX3_outdate_5 : decode cX3_outdate 5 = .ok (.return_, 1) := by decide +kernel
theorem dX3_isUsable_0 : decode cX3_isUsable 0 = .ok (.aload_n 0, 1) := by decide +kernel
theorem dX3_isUsable_1 : decode cX3_isUsable 1 = .ok (.getfield 18, 3) := by decide +kernel
theorem dX3_isUsable_4 : decode cX3_isUsable 4 = .ok (.ifCond .eq 14, 3) := by decide +kernel
theorem dX3_isUsable_7 : decode cX3_isUsable 7 = .ok (.aload_n 0, 1) := by decide +kernel
theorem dX3_isUsable_8 : decode cX3_isUsable 8 = .ok (.getfield 22, 3) := by decide +kernel
theorem dX3_isUsable_11 : decode cX3_isUsable 11 = .ok (.ifCond .ne 7, 3) := by decide +kernel
theorem dX3_isUsable_14 : decode cX3_isUsable 14 = .ok (.iconst 1, 1) := by decide +kernel
theorem dX3_isUsable_15 : decode cX3_isUsable 15 = .ok (.goto 4, 3) := by decide +kernel
theorem dX3_isUsable_18 : decode cX3_isUsable 18 = .ok (.iconst 0, 1) := by decide +kernel
theorem dX3_isUsable_19 : decode cX3_isUsable 19 = .ok (.ireturn, 1) := by decide +kernel
theorem dX3_refusal_0 : decode cX3_refusal 0 = .ok (.aload_n 0, 1) := by decide +kernel
theorem dX3_refusal_1 : decode cX3_refusal 1 = .ok (.getfield 18, 3) := by decide +kernel
theorem dX3_refusal_4 : decode cX3_refusal 4 = .ok (.ifCond .eq 8, 3) := by decide +kernel
theorem dX3_refusal_7 : decode cX3_refusal 7 = .ok (.bipush (-4), 2) := by decide +kernel
theorem dX3_refusal_9 : decode cX3_refusal 9 = .ok (.goto 5, 3) := by decide +kernel
theorem dX3_refusal_12 : decode cX3_refusal 12 = .ok (.bipush (-3), 2) := by decide +kernel
theorem dX3_refusal_14 : decode cX3_refusal 14 = .ok (.ireturn, 1) := by decide +kernel
theorem dX3_kind_0 : decode cX3_kind 0 = .ok (.aload_n 0, 1) := by decide +kernel
theorem dX3_kind_1 : decode cX3_kind 1 = .ok (.getfield 9, 3) := by decide +kernel
theorem dX3_kind_4 : decode cX3_kind 4 = .ok (.ireturn, 1) := by decide +kernel
theorem dX3_passed_0 : decode cX3_passed 0 = .ok (.aload_n 0, 1) := by decide +kernel
theorem dX3_passed_1 : decode cX3_passed 1 = .ok (.getfield 15, 3) := by decide +kernel
theorem dX3_passed_4 : decode cX3_passed 4 = .ok (.ireturn, 1) := by decide +kernel
theorem dX3_move_0 : decode cX3_move 0 = .ok (.aload_n 0, 1) := by decide +kernel
theorem dX3_move_1 : decode cX3_move 1 = .ok (.aload_n 0, 1) := by decide +kernel
theorem dX3_move_2 : decode cX3_move 2 = .ok (.getfield 15, 3) := by decide +kernel
theorem dX3_move_5 : decode cX3_move 5 = .ok (.iload_n 1, 1) := by decide +kernel
theorem dX3_move_6 : decode cX3_move 6 = .ok (.iadd, 1) := by decide +kernel
theorem dX3_move_7 : decode cX3_move 7 = .ok (.iload_n 2, 1) := by decide +kernel
theorem dX3_move_8 : decode cX3_move 8 = .ok (.invokestatic 25, 3) := by decide +kernel
theorem dX3_move_11 : decode cX3_move 11 = .ok (.putfield 15, 3) := by decide +kernel
theorem dX3_move_14 : decode cX3_move 14 = .ok (.return_, 1) := by decide +kernel
