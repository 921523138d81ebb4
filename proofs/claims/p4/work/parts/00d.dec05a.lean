theorem dX5_init_0 : decode cX5_init 0 = .ok (.aload_n 0, 1) := by decide +kernel
theorem dX5_init_1 : decode cX5_init 1 = .ok (.invokespecial 3, 3) := by decide +kernel
theorem dX5_init_4 : decode cX5_init 4 = .ok (.aload_n 0, 1) := by decide +kernel
theorem dX5_init_5 : decode cX5_init 5 = .ok (.bipush 10, 2) := by decide +kernel
theorem dX5_init_7 : decode cX5_init 7 = .ok (.anewarray 9, 3) := by decide +kernel
theorem dX5_init_10 : decode cX5_init 10 = .ok (.putfield 11, 3) := by decide +kernel
theorem dX5_init_13 : decode cX5_init 13 = .ok (.iconst 0, 1) := by decide +kernel
theorem dX5_init_14 : decode cX5_init 14 = .ok (.istore_n 1, 1) := by decide +kernel
theorem dX5_init_15 : decode cX5_init 15 = .ok (.iload_n 1, 1) := by decide +kernel
theorem dX5_init_16 : decode cX5_init 16 = .ok (.bipush 10, 2) := by decide +kernel
theorem dX5_init_18 : decode cX5_init 18 = .ok (.if_icmp .ge 22, 3) := by decide +kernel
theorem dX5_init_21 : decode cX5_init 21 = .ok (.aload_n 0, 1) := by decide +kernel
theorem dX5_init_22 : decode cX5_init 22 = .ok (.getfield 11, 3) := by decide +kernel
theorem dX5_init_25 : decode cX5_init 25 = .ok (.iload_n 1, 1) := by decide +kernel
theorem dX5_init_26 : decode cX5_init 26 = .ok (.new 9, 3) := by decide +kernel
theorem dX5_init_29 : decode cX5_init 29 = .ok (.dup, 1) := by decide +kernel
theorem dX5_init_30 : decode cX5_init 30 = .ok (.invokespecial 17, 3) := by decide +kernel
theorem dX5_init_33 : decode cX5_init 33 = .ok (.aastore, 1) := by decide +kernel
theorem dX5_init_34 : decode cX5_init 34 = .ok (.iinc 1 1, 3) := by decide +kernel
theorem dX5_init_37 : decode cX5_init 37 = .ok (.goto (-22), 3) := by decide +kernel
theorem dX5_init_40 : decode cX5_init 40 = .ok (.return_, 1) := by decide +kernel
theorem dX5_size_0 : decode cX5_size 0 = .ok (.aload_n 0, 1) := by decide +kernel
theorem dX5_size_1 : decode cX5_size 1 = .ok (.getfield 18, 3) := by decide +kernel
theorem dX5_size_4 : decode cX5_size 4 = .ok (.ireturn, 1) := by decide +kernel
theorem dX5_clear_0 : decode cX5_clear 0 = .ok (.aload_n 0, 1) := by decide +kernel
theorem dX5_clear_1 : decode cX5_clear 1 = .ok (.iconst 0, 1) := by decide +kernel
theorem dX5_clear_2 : decode cX5_clear 2 = .ok (.putfield 18, 3) := by decide +kernel
theorem dX5_clear_5 : decode cX5_clear 5 = .ok (.return_, 1) := by decide +kernel
theorem dX5_add_0 : decode cX5_add 0 = .ok (.aload_n 0, 1) := by decide +kernel
theorem dX5_add_1 : decode cX5_add 1 = .ok (.getfield 18, 3) := by decide +kernel
theorem dX5_add_4 : decode cX5_add 4 = .ok (.bipush 10, 2) := by decide +kernel
theorem dX5_add_6 : decode cX5_add 6 = .ok (.if_icmp .ne 26, 3) := by decide +kernel
theorem dX5_add_9 : decode cX5_add 9 = .ok (.aload_n 0, 1) := by decide +kernel
theorem dX5_add_10 : decode cX5_add 10 = .ok (.aload_n 0, 1) := by decide +kernel
theorem dX5_add_11 : decode cX5_add 11 = .ok (.getfield 22, 3) := by decide +kernel
theorem dX5_add_14 : decode cX5_add 14 = .ok (.iconst 1, 1) := by decide +kernel
theorem dX5_add_15 : decode cX5_add 15 = .ok (.iadd, 1) := by decide +kernel
theorem dX5_add_16 : decode cX5_add 16 = .ok (.bipush 10, 2) := by decide +kernel
theorem dX5_add_18 : decode cX5_add 18 = .ok (.irem, 1) := by decide +kernel
theorem dX5_add_19 : decode cX5_add 19 = .ok (.putfield 22, 3) := by decide +kernel
theorem dX5_add_22 : decode cX5_add 22 = .ok (.aload_n 0, 1) := by decide +kernel
theorem dX5_add_23 : decode cX5_add 23 = .ok (.dup, 1) := by decide +kernel
theorem dX5_add_24 : decode cX5_add 24 = .ok (.getfield 18, 3) := by decide +kernel
theorem dX5_add_27 : decode cX5_add 27 = .ok (.iconst 1, 1) := by decide +kernel
theorem dX5_add_28 : decode cX5_add 28 = .ok (.isub, 1) := by decide +kernel
theorem dX5_add_29 : decode cX5_add 29 = .ok (.putfield 18, 3) := by decide +kernel
theorem dX5_add_32 : decode cX5_add 32 = .ok (.aload_n 0, 1) := by decide +kernel
theorem dX5_add_33 : decode cX5_add 33 = .ok (.getfield 11, 3) := by decide +kernel
theorem dX5_add_36 : decode cX5_add 36 = .ok (.aload_n 0, 1) := by decide +kernel
theorem dX5_add_37 : decode cX5_add 37 = .ok (.getfield 22, 3) := by decide +kernel
theorem dX5_add_40 : decode cX5_add 40 = .ok (.aload_n 0, 1) := by decide +kernel
theorem dX5_add_41 : decode cX5_add 41 = .ok (.getfield 18, 3) := by decide +kernel
theorem dX5_add_44 : decode cX5_add 44 = .ok (.iadd, 1) := by decide +kernel
theorem dX5_add_45 : decode cX5_add 45 = .ok (.bipush 10, 2) := by decide +kernel
theorem dX5_add_47 : decode cX5_add 47 = .ok (.irem, 1) := by decide +kernel
theorem dX5_add_48 : decode cX5_add 48 = .ok (.aaload, 1) := by decide +kernel
theorem dX5_add_49 : decode cX5_add 49 = .ok (.aload_n 1, 1) := by decide +kernel
theorem dX5_add_50 : decode cX5_add 50 = .ok (.invokevirtual 25, 3) := by decide +kernel
theorem dX5_add_53 : decode cX5_add 53 = .ok (.aload_n 0, 1) := by decide +kernel
theorem dX5_add_54 : decode cX5_add 54 = .ok (.dup, 1) := by decide +kernel
theorem dX5_add_55 : decode cX5_add 55 = .ok (.getfield 18, 3) := by decide +kernel
theorem dX5_add_58 : decode cX5_add 58 = .ok (.iconst 1, 1) := by decide +kernel
theorem dX5_add_59 : decode cX5_add 59 = .ok (.iadd, 1) := by decide +kernel
theorem dX5_add_60 : decode cX5_add 60 = .ok (.putfield 18, 3) := by decide +kernel
theorem dX5_add_63 : decode cX5_add 63 = .ok (.return_, 1) := by decide +kernel
theorem dX5_takeLatest_0 : decode cX5_takeLatest 0 = .ok (.aload_n 0, 1) := by decide +kernel
theorem dX5_takeLatest_1 : decode cX5_takeLatest 1 = .ok (.getfield 18, 3) := by decide +kernel
theorem dX5_takeLatest_4 : decode cX5_takeLatest 4 = .ok (.ifCond .ne 5, 3) := by decide +kernel
theorem dX5_takeLatest_7 : decode cX5_takeLatest 7 = .ok (.iconst 0, 1) := by decide +kernel
theorem dX5_takeLatest_8 : decode cX5_takeLatest 8 = .ok (.ireturn, 1) := by decide +kernel
theorem dX5_takeLatest_9 : decode cX5_takeLatest 9 = .ok (.aload_n 0, 1) := by decide +kernel
theorem dX5_takeLatest_10 : decode cX5_takeLatest 10 = .ok (.dup, 1) := by decide +kernel
theorem dX5_takeLatest_11 : decode cX5_takeLatest 11 = .ok (.getfield 18, 3) := by decide +kernel
theorem dX5_takeLatest_14 : decode cX5_takeLatest 14 = .ok (.iconst 1, 1) := by decide +kernel
theorem dX5_takeLatest_15 : decode cX5_takeLatest 15 = .ok (.isub, 1) := by decide +kernel
theorem dX5_takeLatest_16 : decode cX5_takeLatest 16 = .ok (.putfield 18, 3) := by decide +kernel
theorem dX5_takeLatest_19 : decode cX5_takeLatest 19 = .ok (.aload_n 1, 1) := by decide +kernel
theorem dX5_takeLatest_20 : decode cX5_takeLatest 20 = .ok (.aload_n 0, 1) := by decide +kernel
theorem dX5_takeLatest_21 : decode cX5_takeLatest 21 = .ok (.getfield 11, 3) := by decide +kernel
theorem dX5_takeLatest_24 : decode cX5_takeLatest 24 = .ok (.aload_n 0, 1) := by decide +kernel
theorem dX5_takeLatest_25 : decode cX5_takeLatest 25 = .ok (.getfield 22, 3) := by decide +kernel
theorem dX5_takeLatest_28 : decode cX5_takeLatest 28 = .ok (.aload_n 0, 1) := by decide +kernel
theorem dX5_takeLatest_29 : decode cX5_takeLatest 29 = .ok (.getfield 18, 3) := by decide +kernel
theorem dX5_takeLatest_32 : decode cX5_takeLatest 32 = .ok (.iadd, 1) := by decide +kernel
theorem dX5_takeLatest_33 : decode cX5_takeLatest 33 = .ok (.bipush 10, 2) := by decide +kernel
theorem dX5_takeLatest_35 : decode cX5_takeLatest 35 = .ok (.irem, 1) := by decide +kernel
theorem dX5_takeLatest_36 : decode cX5_takeLatest 36 = .ok (.aaload, 1) := by decide +kernel
theorem dX5_takeLatest_37 : decode cX5_takeLatest 37 = .ok (.invokevirtual 25, 3) := by decide +kernel
theorem dX5_takeLatest_40 : decode cX5_takeLatest 40 = .ok (.iconst 1, 1) := by decide +kernel
theorem dX5_takeLatest_41 : decode cX5_takeLatest 41 = .ok (.ireturn, 1) := by decide +kernel
