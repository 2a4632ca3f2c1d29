theorem dRw_init_0 : decode cRw_init 0 = .ok (.aload_n 0, 1) := by decide +kernel
theorem dRw_init_1 : decode cRw_init 1 = .ok (.invokespecial 1, 3) := by decide +kernel
theorem dRw_init_4 : decode cRw_init 4 = .ok (.aload_n 0, 1) := by decide +kernel
theorem dRw_init_5 : decode cRw_init 5 = .ok (.iload_n 1, 1) := by decide +kernel
theorem dRw_init_6 : decode cRw_init 6 = .ok (.newarray .int, 2) := by decide +kernel
theorem dRw_init_8 : decode cRw_init 8 = .ok (.putfield 7, 3) := by decide +kernel
theorem dRw_init_11 : decode cRw_init 11 = .ok (.aload_n 0, 1) := by decide +kernel
theorem dRw_init_12 : decode cRw_init 12 = .ok (.iconst 0, 1) := by decide +kernel
theorem dRw_init_13 : decode cRw_init 13 = .ok (.putfield 13, 3) := by decide +kernel
theorem dRw_init_16 : decode cRw_init 16 = .ok (.return_, 1) := by decide +kernel
theorem dRw_add_0 : decode cRw_add 0 = .ok (.aload_n 0, 1) := by decide +kernel
theorem dRw_add_1 : decode cRw_add 1 = .ok (.getfield 13, 3) := by decide +kernel
theorem dRw_add_4 : decode cRw_add 4 = .ok (.aload_n 0, 1) := by decide +kernel
theorem dRw_add_5 : decode cRw_add 5 = .ok (.getfield 7, 3) := by decide +kernel
theorem dRw_add_8 : decode cRw_add 8 = .ok (.arraylength, 1) := by decide +kernel
theorem dRw_add_9 : decode cRw_add 9 = .ok (.if_icmp .ge 23, 3) := by decide +kernel
theorem dRw_add_12 : decode cRw_add 12 = .ok (.aload_n 0, 1) := by decide +kernel
theorem dRw_add_13 : decode cRw_add 13 = .ok (.getfield 7, 3) := by decide +kernel
theorem dRw_add_16 : decode cRw_add 16 = .ok (.aload_n 0, 1) := by decide +kernel
theorem dRw_add_17 : decode cRw_add 17 = .ok (.getfield 13, 3) := by decide +kernel
theorem dRw_add_20 : decode cRw_add 20 = .ok (.iload_n 1, 1) := by decide +kernel
theorem dRw_add_21 : decode cRw_add 21 = .ok (.iastore, 1) := by decide +kernel
theorem dRw_add_22 : decode cRw_add 22 = .ok (.aload_n 0, 1) := by decide +kernel
theorem dRw_add_23 : decode cRw_add 23 = .ok (.dup, 1) := by decide +kernel
theorem dRw_add_24 : decode cRw_add 24 = .ok (.getfield 13, 3) := by decide +kernel
theorem dRw_add_27 : decode cRw_add 27 = .ok (.iconst 1, 1) := by decide +kernel
theorem dRw_add_28 : decode cRw_add 28 = .ok (.iadd, 1) := by decide +kernel
theorem dRw_add_29 : decode cRw_add 29 = .ok (.putfield 13, 3) := by decide +kernel
theorem dRw_add_32 : decode cRw_add 32 = .ok (.return_, 1) := by decide +kernel
theorem dRw_at_0 : decode cRw_at 0 = .ok (.iload_n 1, 1) := by decide +kernel
theorem dRw_at_1 : decode cRw_at 1 = .ok (.ifCond .lt 20, 3) := by decide +kernel
theorem dRw_at_4 : decode cRw_at 4 = .ok (.iload_n 1, 1) := by decide +kernel
theorem dRw_at_5 : decode cRw_at 5 = .ok (.aload_n 0, 1) := by decide +kernel
theorem dRw_at_6 : decode cRw_at 6 = .ok (.getfield 13, 3) := by decide +kernel
theorem dRw_at_9 : decode cRw_at 9 = .ok (.if_icmp .ge 12, 3) := by decide +kernel
theorem dRw_at_12 : decode cRw_at 12 = .ok (.aload_n 0, 1) := by decide +kernel
theorem dRw_at_13 : decode cRw_at 13 = .ok (.getfield 7, 3) := by decide +kernel
theorem dRw_at_16 : decode cRw_at 16 = .ok (.iload_n 1, 1) := by decide +kernel
theorem dRw_at_17 : decode cRw_at 17 = .ok (.iaload, 1) := by decide +kernel
theorem dRw_at_18 : decode cRw_at 18 = .ok (.goto 4, 3) := by decide +kernel
theorem dRw_at_21 : decode cRw_at 21 = .ok (.iconst 0, 1) := by decide +kernel
theorem dRw_at_22 : decode cRw_at 22 = .ok (.ireturn, 1) := by decide +kernel
theorem dRw_drop_0 : decode cRw_drop 0 = .ok (.iload_n 1, 1) := by decide +kernel
theorem dRw_drop_1 : decode cRw_drop 1 = .ok (.ifCond .lt 11, 3) := by decide +kernel
theorem dRw_drop_4 : decode cRw_drop 4 = .ok (.iload_n 1, 1) := by decide +kernel
theorem dRw_drop_5 : decode cRw_drop 5 = .ok (.aload_n 0, 1) := by decide +kernel
theorem dRw_drop_6 : decode cRw_drop 6 = .ok (.getfield 13, 3) := by decide +kernel
theorem dRw_drop_9 : decode cRw_drop 9 = .ok (.if_icmp .le 4, 3) := by decide +kernel
theorem dRw_drop_12 : decode cRw_drop 12 = .ok (.return_, 1) := by decide +kernel
theorem dRw_drop_13 : decode cRw_drop 13 = .ok (.aload_n 0, 1) := by decide +kernel
theorem dRw_drop_14 : decode cRw_drop 14 = .ok (.getfield 7, 3) := by decide +kernel
theorem dRw_drop_17 : decode cRw_drop 17 = .ok (.iload_n 1, 1) := by decide +kernel
theorem dRw_drop_18 : decode cRw_drop 18 = .ok (.aload_n 0, 1) := by decide +kernel
theorem dRw_drop_19 : decode cRw_drop 19 = .ok (.getfield 7, 3) := by decide +kernel
theorem dRw_drop_22 : decode cRw_drop 22 = .ok (.iconst 0, 1) := by decide +kernel
theorem dRw_drop_23 : decode cRw_drop 23 = .ok (.aload_n 0, 1) := by decide +kernel
theorem dRw_drop_24 : decode cRw_drop 24 = .ok (.getfield 13, 3) := by decide +kernel
theorem dRw_drop_27 : decode cRw_drop 27 = .ok (.iload_n 1, 1) := by decide +kernel
theorem dRw_drop_28 : decode cRw_drop 28 = .ok (.isub, 1) := by decide +kernel
theorem dRw_drop_29 : decode cRw_drop 29 = .ok (.invokestatic 17, 3) := by decide +kernel
theorem dRw_drop_32 : decode cRw_drop 32 = .ok (.aload_n 0, 1) := by decide +kernel
theorem dRw_drop_33 : decode cRw_drop 33 = .ok (.dup, 1) := by decide +kernel
theorem dRw_drop_34 : decode cRw_drop 34 = .ok (.getfield 13, 3) := by decide +kernel
theorem dRw_drop_37 : decode cRw_drop 37 = .ok (.iload_n 1, 1) := by decide +kernel
theorem dRw_drop_38 : decode cRw_drop 38 = .ok (.isub, 1) := by decide +kernel
theorem dRw_drop_39 : decode cRw_drop 39 = .ok (.putfield 13, 3) := by decide +kernel
theorem dRw_drop_42 : decode cRw_drop 42 = .ok (.return_, 1) := by decide +kernel
